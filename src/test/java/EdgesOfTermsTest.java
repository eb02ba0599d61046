import java.io.IOException;

/** What the document names as a boundary in "What it is" and in "Terms", a test for each sentence. */
public final class EdgesOfTermsTest {
    private static final Check CHECK = new Check("EdgesOfTermsTest");

    public static void main(String[] args) throws IOException {
        Edges edges = new Edges(CHECK, args);
        ofSegments(edges);
        ofCosts(edges);
        ofTheQuestion(edges);
        edges.end();
    }

    private static void ofSegments(Edges edges) {
        edges.sentence("one to eight SIGNS", EdgesOfTermsTest::oneToEightSigns);
        edges.sentence("with one space between", EdgesOfTermsTest::oneSpaceBetween);
        edges.sentence("a WORD (1 to 12 letters \"a\" to \"z\")", EdgesOfTermsTest::lettersOfAWord);
        edges.sentence("a TAG (\"[\", a digit 1 to 9, \"]\")", EdgesOfTermsTest::digitOfATag);
        edges.sentence("An object is used for at most 512 calls after it has been made; what later calls answer "
                + "is free.",
                EdgesOfTermsTest::fiveHundredAndTwelveCalls);
        edges.sentence("Twelve at most are KEPT, numbered from 0 as they come.", EdgesOfTermsTest::twelveAtMost);
    }

    private static void ofCosts(Edges edges) {
        edges.sentence("WEIGHT (1 to 20; 5 at first) is what a TAG costs", EdgesOfTermsTest::costOfATag);
        edges.sentence("a WORD costs 10", EdgesOfTermsTest::costOfAWord);
        edges.sentence("ALIKE of two WORDS: 0, if they are the same", EdgesOfTermsTest::alikeOfTheSame);
        edges.sentence("else (10 * L) / M, rounded up", EdgesOfTermsTest::alikeIsRoundedUp);
        edges.sentence("L is the least number of letters that have to be put in, left out, or put in the place of "
                + "another one, one by one, to make the one the other one", EdgesOfTermsTest::leastNumberOfLetters);
        edges.sentence("M how many letters the longer one has", EdgesOfTermsTest::longerOne);
        edges.sentence("FAR of two SEGMENTS: the least cost of making the one the other one",
                EdgesOfTermsTest::leastCost);
        edges.sentence("by STEPS, one behind the other, till both are at their ends", EdgesOfTermsTest::tillTheEnds);
        edges.sentence("0 BOTH (the next SIGN of each; two WORDS: ALIKE", EdgesOfTermsTest::bothOfWords);
        edges.sentence("two TAGS: 0, if they are the same, else WEIGHT", EdgesOfTermsTest::bothOfTags);
        edges.sentence("never a WORD and a TAG", EdgesOfTermsTest::neverAWordAndATag);
        edges.sentence("1 OUT (the next SIGN of the one; what it costs), 2 IN (the next SIGN of the other one; "
                + "what it costs)",
                EdgesOfTermsTest::outAndIn);
        edges.sentence("of several rows of STEPS that which has the lesser STEP at the first place where they are "
                + "unlike",
                EdgesOfTermsTest::lesserStepAtTheFirstPlace);
        edges.sentence("ALL of two SEGMENTS: what all SIGNS of both cost, together.",
                EdgesOfTermsTest::leastAndMostOfAll);
        edges.sentence("SCORE: 1000 less (1000 * FAR) / ALL, rounded up (the quotient).",
                EdgesOfTermsTest::scoreIsRounded);
        edges.sentence("a score that is the same both ways", EdgesOfTermsTest::scoreBothWays);
        edges.sentence("its letters with \"^\" ahead of them and \"$\" behind them", EdgesOfTermsTest::edgesOfAWord);
        edges.sentence("all two that stand side by side (one more than it has letters)",
                EdgesOfTermsTest::oneGramMoreThanLetters);
        edges.sentence("of a SEGMENT: those of all its WORDS, as often as they are there",
                EdgesOfTermsTest::gramsAsOftenAsTheyAreThere);
        edges.sentence("of each GRAM the lesser of how often it is in the one and in the other one, together",
                EdgesOfTermsTest::lesserOfHowOften);
    }

    private static void ofTheQuestion(Edges edges) {
        edges.sentence("THE QUESTION is a SEGMENT, too (none at first).", EdgesOfTermsTest::noQuestionAtFirst);
        edges.sentence("if its SCORE with THE QUESTION is BOUND or more", EdgesOfTermsTest::scoreAtTheBound);
        edges.sentence("(0 to 1000; 700 at first)", EdgesOfTermsTest::boundAtFirst);
        edges.sentence("ROOM: (1000 - BOUND) * ALL / 1000 (rounded down).", EdgesOfTermsTest::roomIsRoundedDown);
        edges.sentence("10 * (by how many WORDS more the one has) + WEIGHT * (by how many TAGS more the one has)",
                EdgesOfTermsTest::wordsAndTagsMore);
        edges.sentence("is ROOM or less", EdgesOfTermsTest::lengthsAtTheRoom);
        edges.sentence("whichever has more of each", EdgesOfTermsTest::whicheverHasMore);
        edges.sentence("is 12 * ROOM or less", EdgesOfTermsTest::gramsAtTheRoom);
        edges.sentence("the greater number of GRAMS of both less SHARED", EdgesOfTermsTest::greaterNumberOfGrams);
        edges.sentence("(Each MATCH can be one by both.)", EdgesOfTermsTest::eachMatchCanBeOne);
        edges.sentence("RANKS: MATCHES by SCORE, the greatest first", EdgesOfTermsTest::greatestScoreFirst);
        edges.sentence("of like ones that with fewer STEPS of TAGS that cost something (OUT, IN, BOTH of unlike TAGS)",
                EdgesOfTermsTest::fewerStepsOfTags);
        edges.sentence("then the lesser number", EdgesOfTermsTest::lesserNumber);
        edges.sentence("THE STEPS here are those that make the SEGMENT (the one) THE QUESTION (the other one).",
                EdgesOfTermsTest::segmentIsTheOne);
        edges.sentence("COVERED is a SIGN of THE QUESTION, if THE STEPS of some MATCH have it BOTH at no cost.",
                EdgesOfTermsTest::bothAtNoCost);
    }

    private static void due(String call, long got, long want) {
        CHECK.due(call, got, want);
    }

    private static void dueKeep(String text, int want) {
        due("keep() of \"" + text + "\"", Check.keepAlone(text), want);
    }

    private static void dueNear(NearPhrases x, int segment, int what, int want) {
        due("near(" + segment + ", " + what + ")", x.near(segment, what), want);
    }

    // ---- segments

    private static void oneToEightSigns() {
        dueKeep("", NearPhrases.STATE);
        dueKeep("a", 0);
        dueKeep("[1]", 0);
        dueKeep("a b c d e f g h", 0);
        dueKeep("a b c d e f g h i", NearPhrases.STATE);
        dueKeep("[1] [1] [1] [1] [1] [1] [1] [1]", 0);
        dueKeep("[1] [1] [1] [1] [1] [1] [1] [1] [1]", NearPhrases.STATE);
        dueKeep("a b c d e f g [8]", 0);
        dueKeep("a b c d e f g h [9]", NearPhrases.STATE);
    }

    private static void oneSpaceBetween() {
        dueKeep("a b", 0);
        dueKeep("a [1]", 0);
        dueKeep("[1] a", 0);
        dueKeep("[1] [2]", 0);
        for (String text : new String[] {" ", " a", "a ", "a  b", "[1]  a", "[1] ", " [1]", "a[1]", "[1]a", "[1][2]",
                "a-b", "a,b"}) {
            dueKeep(text, NearPhrases.STATE);
        }
    }

    private static void lettersOfAWord() {
        dueKeep("abcdefghijkl", 0);
        dueKeep("abcdefghijklm", NearPhrases.STATE);
        dueKeep("a abcdefghijklm", NearPhrases.STATE);
        dueKeep("abcdefghijkl abcdefghijkl", 0);
        for (int code = 32; code <= 126; code++) {
            boolean fits = code >= 'a' && code <= 'z';
            dueKeep("" + (char) code, fits ? 0 : NearPhrases.STATE);
            dueKeep("m" + (char) code, fits ? 0 : NearPhrases.STATE);
        }
    }

    private static void digitOfATag() {
        for (int code = 32; code <= 126; code++) {
            dueKeep("[" + (char) code + "]", code >= '1' && code <= '9' ? 0 : NearPhrases.STATE);
            dueKeep("[5" + (char) code, code == ']' ? 0 : NearPhrases.STATE);
        }
        for (String text : new String[] {"[", "[1", "[]", "]", "1]", "1", "[11]", "[1]]", "[[1]", "[1 ]", "[ 1]"}) {
            dueKeep(text, NearPhrases.STATE);
        }
    }

    /** Four calls, 507 of near(), and digest() as the last that is told; then all, only that they end. */
    private static void fiveHundredAndTwelveCalls() {
        NearPhrases x = Check.asking("a", "a");
        for (int call = 5; call <= 511; call++) {
            due("near(0, 2) as call " + call, x.near(0, 2), 1000);
        }
        due("digest() as call 512", x.digest(), Check.foldOf(1, 1, 0, 2, 10, 1, 1, 1, 0, 2, 10, 1, 1, 1, 1, 1,
                0, 20, 1000, 2, 1, 6, 1, 1, 1, 0, 0, 0, 1, 1, 0, 1, 5, 700, 2));
        for (int call = 513; call <= 2000; call++) {
            callEach(x, call);
        }
    }

    private static void callEach(NearPhrases x, int n) {
        x.letter('a' + n % 26);
        x.fault();
        x.keep();
        x.letter('a' + n % 7);
        x.ask();
        x.blank();
        x.weight(n % 22);
        x.bound(n % 1002);
        x.segment(n % 13, n % 7);
        x.sign(n % 13, n % 2, n % 15);
        x.alike(n % 13, 0, n % 12, n % 2);
        x.two(n % 13, n % 12, n % 6);
        x.gram('a' + n % 26, '$');
        x.near(n % 13, n % 11);
        x.step(n % 13, n % 3, n % 5);
        x.rank(n % 13);
        x.question(n % 11);
        x.covered(n % 3);
        x.count(n % 9);
        x.digest();
        x.drop(n % 40);
    }

    private static void twelveAtMost() {
        NearPhrases x = new NearPhrases();
        for (int i = 0; i < 12; i++) {
            due("keep() as number " + i, Check.keep(x, "" + (char) ('z' - i)), i);
            due("count(1)", x.count(1), i + 1);
        }
        due("keep() of one more", Check.keep(x, "a"), NearPhrases.FULL);
        due("count(1) at most", x.count(1), 12);
        for (int i = 0; i < 12; i++) {
            due("sign(" + i + ", 0, 2)", x.sign(i, 0, 2), 'z' - i);
        }
        due("segment(12, 0)", x.segment(12, 0), NearPhrases.UNKNOWN);
    }

    // ---- costs

    private static void costOfATag() {
        NearPhrases x = Check.with("[1]", "[1] [2] [3] [4] [5] [6] [7] [9]");
        due("cost at first", x.segment(0, 4), 5);
        due("cost of eight at first", x.segment(1, 4), 40);
        due("weight(0)", x.weight(0), NearPhrases.OUTSIDE);
        due("weight(21)", x.weight(21), NearPhrases.OUTSIDE);
        due("cost behind both", x.segment(0, 4), 5);
        due("weight(1)", x.weight(1), 5);
        due("cost at 1", x.segment(0, 4), 1);
        due("cost of eight at 1", x.segment(1, 4), 8);
        due("weight(20)", x.weight(20), 1);
        due("cost at 20", x.segment(0, 4), 20);
        due("cost of eight at 20", x.segment(1, 4), 160);
    }

    private static void costOfAWord() {
        NearPhrases x = Check.with("a", "abcdefghijkl", "a b c d e f g h");
        for (int weight : new int[] {1, 5, 20}) {
            x.weight(weight);
            due("cost of one letter", x.segment(0, 4), 10);
            due("cost of twelve letters", x.segment(1, 4), 10);
            due("cost of eight words", x.segment(2, 4), 80);
        }
    }

    private static void dueAlike(String one, String other, int want) {
        NearPhrases x = Check.with("q " + one, "q r " + other);
        due("alike of " + one + ", " + other, x.alike(0, 1, 1, 2), want);
        due("alike of " + other + ", " + one, x.alike(1, 2, 0, 1), want);
    }

    private static void alikeOfTheSame() {
        dueAlike("a", "a", 0);
        dueAlike("z", "z", 0);
        dueAlike("abcdefghijkl", "abcdefghijkl", 0);
        dueAlike("a", "b", 10);
        dueAlike("abcdefghijkl", "abcdefghijkm", 1);
        dueAlike("abcdefghijkl", "bbcdefghijkl", 1);
    }

    /** One letter of 1 to 12: 10, 5, 10/3, 10/4, 2, 10/6, 10/7, 10/8, 10/9, 1, 10/11, 10/12. */
    private static void alikeIsRoundedUp() {
        int[] due = {10, 5, 4, 3, 2, 2, 2, 2, 2, 1, 1, 1};
        String word = "abcdefghijkl";
        for (int length = 1; length <= 12; length++) {
            String ahead = word.substring(0, length - 1);
            dueAlike(ahead + "x", ahead + "y", due[length - 1]);
        }
        dueAlike("abcdefghijkl", "lxxxxxxxxxxx", 10);
        dueAlike("abcdefghijkl", "axxxxxxxxxxx", 10);
        dueAlike("abcdefghijkl", "abxxxxxxxxxx", 9);
        dueAlike("abcdefghijkl", "abcdefxxxxxx", 5);
    }

    /** Put in, left out, in the place of another; a letter that has moved is one of each. */
    private static void leastNumberOfLetters() {
        dueAlike("abcdefghij", "abcdefghi", 1);
        dueAlike("abcdefghij", "bcdefghij", 1);
        dueAlike("abcdefghij", "abcdxfghij", 1);
        dueAlike("abcdefghij", "bcdefghija", 2);
        dueAlike("abcdefghij", "bacdefghij", 2);
        dueAlike("abcdefghij", "bacdefghji", 4);
        dueAlike("ab", "ba", 10);
        dueAlike("abcdefghij", "jihgfedcba", 10);
        dueAlike("aaaaaaaaaa", "aaaaa", 5);
        dueAlike("abcabcabca", "bcabcabcab", 2);
    }

    private static void longerOne() {
        dueAlike("a", "ab", 5);
        dueAlike("a", "abcdefghijkl", 10);
        dueAlike("ab", "abcdefghijkl", 9);
        dueAlike("abcdefghijk", "abcdefghijkl", 1);
        dueAlike("abcd", "abcdefgh", 5);
        dueAlike("zz", "abcdefgh", 10);
    }

    private static void dueFar(String one, String other, int weight, int far, int steps) {
        NearPhrases x = Check.with(one, other);
        x.weight(weight);
        int b = x.count(1) - 1;
        due("far of \"" + one + "\", \"" + other + "\"", x.two(0, b, 0), far);
        due("steps of \"" + one + "\", \"" + other + "\"", x.two(0, b, 4), steps);
    }

    private static void tillTheEnds() {
        dueFar("a", "a", 5, 0, 1);
        dueFar("a b c d e f g h", "a b c d e f g h", 5, 0, 8);
        dueFar("a", "a b c d e f g h", 5, 70, 8);
        dueFar("h", "a b c d e f g h", 5, 70, 8);
        dueFar("a b c d e f g h", "a", 5, 70, 8);
        dueFar("a b c d e f g h", "h", 5, 70, 8);
        dueFar("a b c d e f g [1]", "a b c d e f g", 3, 3, 8);
        dueFar("[1] a b c d e f g", "a b c d e f g", 3, 3, 8);
        dueFar("[1] [2] [3] [4] [5] [6] [7] [8]", "a b c d e f g h", 20, 240, 16);
    }

    /** The dearest BOTH, of words with nothing alike, is cheaper than OUT and IN. */
    private static void leastCost() {
        dueFar("a", "b", 5, 10, 1);
        dueFar("a b", "b a", 5, 20, 2);
        dueFar("a b c", "b c a", 5, 20, 4);
        dueFar("abcdefghijkl a", "a abcdefghijkl", 5, 20, 2);
        dueFar("a [1] b [2]", "[2] a [1] b", 1, 2, 5);
        dueFar("[1] a [2] b", "a [1] b [2]", 20, 30, 5);
        dueFar("[1] a [2] b", "a [1] b [2]", 4, 12, 5);
    }

    private static void bothOfWords() {
        dueFar("abcdefghijkl", "abcdefghijkl", 5, 0, 1);
        dueFar("abcdefghijkl", "abcdefghijkx", 5, 1, 1);
        dueFar("abcdefghijkl", "abcdefghijxx", 5, 2, 1);
        dueFar("abcdefghijkl", "a", 5, 10, 1);
        dueFar("cat cats", "cats cat", 5, 6, 2);
    }

    private static void outAndIn() {
        for (int weight : new int[] {1, 5, 20}) {
            dueFar("a [1]", "a", weight, weight, 2);
            dueFar("a", "a [1]", weight, weight, 2);
            dueFar("a [1]", "[1]", weight, 10, 2);
            dueFar("[1]", "a [1]", weight, 10, 2);
        }
        dueFar("a abcdefghijkl", "a", 5, 10, 2);
        dueFar("a", "a abcdefghijkl", 5, 10, 2);
    }

    private static void bothOfTags() {
        for (int weight : new int[] {1, 5, 20}) {
            dueFar("[1]", "[1]", weight, 0, 1);
            dueFar("[1]", "[9]", weight, weight, 1);
            dueFar("[8]", "[9]", weight, weight, 1);
            dueFar("[1] [2]", "[2] [1]", weight, 2 * weight, 2);
            dueFar("[1] [2] [3]", "[2] [3] [1]", weight, 2 * weight, 4);
        }
    }

    private static void neverAWordAndATag() {
        dueFar("a", "[1]", 1, 11, 2);
        dueFar("a", "[1]", 20, 30, 2);
        dueFar("[1]", "a", 10, 20, 2);
        dueFar("a [1]", "[1] a", 1, 2, 3);
        dueFar("a [1]", "[1] a", 20, 20, 3);
    }

    private static void dueKinds(String segment, String question, int weight, String want) {
        NearPhrases x = Check.asking(question, segment);
        x.weight(weight);
        String got = Check.kinds(x, 0);
        CHECK.holds("steps from \"" + segment + "\" to \"" + question + "\" are " + want + ", not " + got + ": that",
                got.equals(want));
    }

    /** In each of these several rows cost the same. */
    private static void lesserStepAtTheFirstPlace() {
        dueKinds("a b", "c", 5, "01");
        dueKinds("c", "a b", 5, "02");
        dueKinds("a", "[1]", 5, "12");
        dueKinds("[1]", "a", 5, "12");
        dueKinds("a [1]", "[1] a", 10, "102");
        dueKinds("[1] a", "a [1]", 10, "102");
        dueKinds("[1] a", "a [1] b", 5, "1022");
        dueKinds("a [1] b", "[1] a", 5, "100");
        dueKinds("[1] [2] [3]", "[4]", 5, "011");
        dueKinds("[4]", "[1] [2] [3]", 5, "022");
        dueKinds("a a", "a", 5, "01");
        dueKinds("a", "a a", 5, "02");
    }

    private static void leastAndMostOfAll() {
        NearPhrases x = Check.with("[1]", "[2]", "a", "[1] [2] [3] [4] [5] [6] [7] [8]", "a b c d e f g h");
        due("all of nine words at first", x.two(2, 4, 1), 90);
        x.weight(1);
        due("the least of all", x.two(0, 1, 1), 2);
        due("all of one and itself", x.two(0, 0, 1), 2);
        x.weight(20);
        due("the most of all", x.two(3, 3, 1), 320);
        due("all of tags and words", x.two(3, 4, 1), 240);
    }

    private static void dueScore(String one, String other, int weight, int want) {
        NearPhrases x = Check.with(one, other);
        x.weight(weight);
        due("score of \"" + one + "\", \"" + other + "\"", x.two(0, x.count(1) - 1, 2), want);
    }

    /** Quotients: 0, 1000, 1000/160 is 6.25, 1000/40 is 25, 1000/3 and 2000/3, 31000/103 is 300.97. */
    private static void scoreIsRounded() {
        dueScore("a", "a", 5, 1000);
        dueScore("[1]", "[1]", 1, 1000);
        dueScore("a", "[1]", 5, 0);
        dueScore("a b c d e f g h", "[1]", 1, 0);
        dueScore("a b c d e f g abcdefghijkl", "a b c d e f g abcdefghijkx", 5, 993);
        dueScore("a abcdefghijkl", "a abcdefghijkx", 5, 975);
        dueScore("[1]", "[1] [1]", 1, 666);
        dueScore("[1]", "[2]", 1, 500);
        dueScore("[1]", "[1] [1] [1] [1] [1]", 1, 333);
        dueScore("p q r abcde s [1]", "p q r vwxye", 13, 699);
    }

    private static void scoreBothWays() {
        String[] texts = {"[1] a", "a [1] b", "abcde", "abxyz zz", "[2] [1] [3]", "[1] [2]", "a b c d e f g h"};
        NearPhrases x = Check.with(texts);
        for (int weight : new int[] {1, 5, 20}) {
            x.weight(weight);
            for (int a = 0; a < texts.length; a++) {
                for (int b = 0; b < a; b++) {
                    due("far both ways of " + a + ", " + b, x.two(a, b, 0), x.two(b, a, 0));
                    due("score both ways of " + a + ", " + b, x.two(a, b, 2), x.two(b, a, 2));
                }
            }
        }
    }

    private static void dueGrams(String text, int want) {
        due("grams of \"" + text + "\"", Check.with(text).segment(0, 3), want);
    }

    private static void edgesOfAWord() {
        NearPhrases x = Check.with("ab", "c");
        due("gram(^a)", x.gram('^', 'a'), 1);
        due("gram(b$)", x.gram('b', '$'), 1);
        due("gram(^b)", x.gram('^', 'b'), 0);
        due("gram(a$)", x.gram('a', '$'), 0);
        due("gram(^c)", x.gram('^', 'c'), 1);
        due("gram(c$)", x.gram('c', '$'), 1);
        dueShared("ab", "ac", 1);
        dueShared("ab", "cb", 1);
        dueShared("ab", "bab", 2);
    }

    private static void oneGramMoreThanLetters() {
        String word = "abcdefghijkl";
        for (int length = 1; length <= 12; length++) {
            dueGrams(word.substring(0, length), length + 1);
        }
        NearPhrases x = Check.with("az");
        due("gram(^a)", x.gram('^', 'a'), 1);
        due("gram(az)", x.gram('a', 'z'), 1);
        due("gram(z$)", x.gram('z', '$'), 1);
        due("count(7)", x.count(7), 3);
    }

    /** A page of 48 letters has at most 49 grams: each word takes a space from it, and gives one gram more. */
    private static void gramsAsOftenAsTheyAreThere() {
        dueGrams("[1]", 0);
        dueGrams("[1] [2] [3] [4] [5] [6] [7] [8]", 0);
        dueGrams("a [1] a", 4);
        dueGrams("a a a a a a a a", 16);
        dueGrams("aaaaaaaaaaaa", 13);
        dueGrams("aaaaaaaaaaaa aaaaaaaaaaaa aaaaaaaaaaaa aaaaaaaaa", 49);
        dueGrams("aaaaaaaaaaaa aaaaaaaaaaaa aaaaaaaaaaaa a a a a a", 49);
    }

    private static void dueShared(String one, String other, int want) {
        NearPhrases x = Check.with(one, other);
        int b = x.count(1) - 1;
        due("shared of \"" + one + "\", \"" + other + "\"", x.two(0, b, 3), want);
        due("shared of \"" + other + "\", \"" + one + "\"", x.two(b, 0, 3), want);
    }

    private static void lesserOfHowOften() {
        dueShared("a", "b", 0);
        dueShared("[1]", "[1]", 0);
        dueShared("[1]", "a", 0);
        dueShared("a", "a", 2);
        dueShared("a a a a a a a a", "a", 2);
        dueShared("a a a a a a a a", "a a a a a a a", 14);
        dueShared("aaaa", "aa aa", 4);
        dueShared("ab", "ba", 0);
        dueShared("ab", "xab", 2);
        dueShared("aaaaaaaaaaaa aaaaaaaaaaaa aaaaaaaaaaaa aaaaaaaaa",
                "aaaaaaaaaaaa aaaaaaaaaaaa aaaaaaaaaaaa a a a a a", 41);
        sharedInRowsUsedAgain();
    }

    /** "a" comes where "mnop" stood, whose gram "no" is not there any more. */
    private static void sharedInRowsUsedAgain() {
        NearPhrases x = Check.with("mnop");
        x.drop(0);
        Check.keep(x, "a");
        Check.keep(x, "no");
        due("two(0, 1, 3) in a row used again", x.two(0, 1, 3), 0);
        due("two(1, 0, 3) in a row used again", x.two(1, 0, 3), 0);
        Check.ask(x, "mnop");
        due("near(1, 3)", x.near(1, 3), 1);
        Check.ask(x, "a");
        due("near(1, 3) of another question", x.near(1, 3), 0);
    }

    // ---- the question

    private static void noQuestionAtFirst() {
        NearPhrases x = Check.with("a");
        for (int what = 0; what <= 9; what++) {
            due("question(" + what + ") at first", x.question(what), NearPhrases.STATE);
        }
        due("ask() of nothing", x.ask(), NearPhrases.STATE);
        due("ask() of nine signs", Check.ask(x, "a b c d e f g h i"), NearPhrases.STATE);
        due("question(0) still", x.question(0), NearPhrases.STATE);
        x.blank();
        due("ask() of eight signs", Check.ask(x, "a b c d e f g [1]"), 8);
        due("question(0)", x.question(0), 8);
        due("count(1) behind ask()", x.count(1), 1);
    }

    /** "a abcdefghijkl" and "a abcdefghijkx" have the score 975. */
    private static void scoreAtTheBound() {
        NearPhrases x = Check.asking("a abcdefghijkx", "a abcdefghijkl");
        int[] bounds = {0, 974, 975, 976, 1000};
        int[] due = {1, 1, 1, 0, 0};
        for (int i = 0; i < bounds.length; i++) {
            x.bound(bounds[i]);
            due("near(0, 8) at bound " + bounds[i], x.near(0, 8), due[i]);
            due("question(5) at bound " + bounds[i], x.question(5), due[i]);
        }
        NearPhrases none = Check.asking("[1]", "a");
        none.bound(1);
        due("near(0, 8) of score 0 at bound 1", none.near(0, 8), 0);
        none.bound(0);
        due("near(0, 8) of score 0 at bound 0", none.near(0, 8), 1);
        NearPhrases same = Check.asking("a", "a");
        same.bound(1000);
        due("near(0, 8) of score 1000 at bound 1000", same.near(0, 8), 1);
    }

    /** "abcde" and "abxyz" have the score 700 by themselves. */
    private static void boundAtFirst() {
        NearPhrases x = Check.asking("abxyz", "abcde");
        due("count(6) at first", x.count(6), 700);
        dueNear(x, 0, 2, 700);
        dueNear(x, 0, 8, 1);
        NearPhrases y = Check.asking("p q r vwxye", "p q r abcde s [1]");
        y.weight(13);
        dueNear(y, 0, 2, 699);
        dueNear(y, 0, 8, 0);
        due("bound(-1)", y.bound(-1), NearPhrases.OUTSIDE);
        due("bound(1001)", y.bound(1001), NearPhrases.OUTSIDE);
        due("bound(0)", y.bound(0), 700);
        dueNear(y, 0, 8, 1);
        due("bound(1000)", y.bound(1000), 0);
        dueNear(y, 0, 8, 0);
    }

    /** ALL is 25. */
    private static void roomIsRoundedDown() {
        NearPhrases x = Check.asking("b", "a [1]");
        int[] bounds = {0, 1, 39, 40, 41, 700, 959, 960, 961, 999, 1000};
        int[] due = {25, 24, 24, 24, 23, 7, 1, 1, 0, 0, 0};
        for (int i = 0; i < bounds.length; i++) {
            x.bound(bounds[i]);
            due("room at bound " + bounds[i], x.near(0, 5), due[i]);
        }
        NearPhrases most = Check.asking("[1] [2] [3] [4] [5] [6] [7] [8]", "[8] [7] [6] [5] [4] [3] [2] [1]");
        most.weight(20);
        most.bound(0);
        dueNear(most, 0, 5, 320);
        most.bound(999);
        dueNear(most, 0, 5, 0);
    }

    /** A word more and a tag more are 15 at first; ALL is 35. */
    private static void lengthsAtTheRoom() {
        NearPhrases x = Check.asking("c", "a b [1]");
        x.bound(571);
        dueNear(x, 0, 5, 15);
        dueNear(x, 0, 6, 1);
        x.bound(572);
        dueNear(x, 0, 5, 14);
        dueNear(x, 0, 6, 0);
        x.weight(4);
        x.bound(600);
        dueNear(x, 0, 5, 13);
        dueNear(x, 0, 6, 0);
        x.bound(580);
        dueNear(x, 0, 5, 14);
        dueNear(x, 0, 6, 1);
        NearPhrases same = Check.asking("b [2]", "a [1]");
        same.bound(1000);
        dueNear(same, 0, 5, 0);
        dueNear(same, 0, 6, 1);
    }

    /** Two words and three tags more. */
    private static void wordsAndTagsMore() {
        NearPhrases x = Check.asking("c", "a b c [1] [2] [3]");
        int[] weights = {5, 1, 20};
        int[] all = {55, 43, 100};
        int[] more = {35, 23, 80};
        for (int i = 0; i < weights.length; i++) {
            x.weight(weights[i]);
            due("all at weight " + weights[i], x.near(0, 1), all[i]);
            for (int bound = 0; bound <= 1000; bound += 25) {
                x.bound(bound);
                int room = (1000 - bound) * all[i] / 1000;
                due("lengths at weight " + weights[i] + ", bound " + bound, x.near(0, 6), more[i] <= room ? 1 : 0);
            }
        }
    }

    private static void whicheverHasMore() {
        String[][] texts = {{"a b [1]", "c"}, {"c", "a b [1]"}, {"a b", "c [1]"}, {"c [1]", "a b"}};
        for (String[] both : texts) {
            NearPhrases x = Check.asking(both[1], both[0]);
            x.bound(571);
            due("lengths of \"" + both[0] + "\", \"" + both[1] + "\" at room 15", x.near(0, 6), 1);
            x.bound(572);
            due("lengths of \"" + both[0] + "\", \"" + both[1] + "\" at room 14", x.near(0, 6), 0);
        }
    }

    /** Grams that are not shared: 12 are 60, which is 12 * 5; 13 are 65, 11 are 55, more than 12 * 4. */
    private static void gramsAtTheRoom() {
        NearPhrases x = Check.asking("z", "abcdefghijk", "abcdefghij", "abcdefghijkl");
        x.bound(750);
        dueNear(x, 0, 5, 5);
        dueNear(x, 0, 7, 1);
        dueNear(x, 1, 7, 1);
        dueNear(x, 2, 7, 0);
        x.bound(700);
        dueNear(x, 2, 5, 6);
        dueNear(x, 2, 7, 1);
        x.bound(751);
        dueNear(x, 0, 5, 4);
        dueNear(x, 0, 7, 0);
        dueNear(x, 1, 7, 0);
        x.bound(1000);
        Check.ask(x, "abcdefghijk");
        dueNear(x, 0, 5, 0);
        dueNear(x, 0, 7, 1);
        dueNear(x, 1, 7, 0);
    }

    private static void greaterNumberOfGrams() {
        String[][] texts = {{"abcdefghijk", "z"}, {"z", "abcdefghijk"}, {"abcdefghijkl", "a"}, {"a", "abcdefghijkl"}};
        for (String[] both : texts) {
            NearPhrases x = Check.asking(both[1], both[0]);
            x.bound(750);
            due("grams of \"" + both[0] + "\", \"" + both[1] + "\" at room 5", x.near(0, 7), 1);
            x.bound(751);
            due("grams of \"" + both[0] + "\", \"" + both[1] + "\" at room 4", x.near(0, 7), 0);
        }
    }

    /** The first three are a match with nothing to spare: by grams (60 and 12 * 5), by lengths (10 and 10), by both. */
    private static void eachMatchCanBeOne() {
        dueTightMatch("abcdefghijkl", "xbxdxfxhxjxl", 750, 5);
        dueTightMatch("a b", "a", 666, 10);
        dueTightMatch("a", "a", 1000, 0);
        String[] texts = {"abcdefghijkl", "xbxdxfxhxjxl [1]", "a b", "[1] a", "[1] [2] [3]", "abab ba", "bacdefghijkl"};
        for (String question : texts) {
            NearPhrases x = Check.asking(question, texts);
            for (int i = 0; i < texts.length; i++) {
                x.bound(x.near(i, 2));
                due("match at its own score", x.near(i, 8), 1);
                due("by lengths at its own score", x.near(i, 6), 1);
                due("by grams at its own score", x.near(i, 7), 1);
            }
        }
    }

    private static void dueTightMatch(String segment, String question, int score, int room) {
        NearPhrases x = Check.asking(question, segment);
        x.bound(score);
        dueNear(x, 0, 2, score);
        dueNear(x, 0, 5, room);
        dueNear(x, 0, 6, 1);
        dueNear(x, 0, 7, 1);
        dueNear(x, 0, 8, 1);
        x.bound(Math.min(1000, score + 1));
        dueNear(x, 0, 8, score == 1000 ? 1 : 0);
    }

    private static void dueRanks(NearPhrases x, int... want) {
        for (int r = 0; r < want.length; r++) {
            due("rank(" + r + ")", x.rank(r), want[r]);
        }
        due("rank behind the last", x.rank(want.length), NearPhrases.UNKNOWN);
    }

    /** Scores with "abcdefghij": 950, 1000, 900, 500, 850. */
    private static void greatestScoreFirst() {
        NearPhrases x = Check.asking("abcdefghij", "abcdefghix", "abcdefghij", "abcdefghxx", "z", "abcdefgxxx");
        dueRanks(x, 1, 0, 2, 4);
        x.bound(500);
        dueRanks(x, 1, 0, 2, 4, 3);
        x.bound(901);
        dueRanks(x, 1, 0);
        x.bound(1000);
        dueRanks(x, 1);
    }

    /** All of them are 10 from "ab c [1]" at weight 10, but by other kinds of steps. */
    private static void fewerStepsOfTags() {
        NearPhrases both = Check.with("ab c [2]", "ab d [1]");
        both.weight(10);
        Check.ask(both, "ab c [1]");
        dueTagSteps(both, 1, 0);
        dueRanks(both, 1, 0);
        NearPhrases out = Check.with("ab c [1] [1]", "ab c c [1]");
        out.weight(10);
        Check.ask(out, "ab c [1]");
        dueTagSteps(out, 1, 0);
        dueRanks(out, 1, 0);
        NearPhrases in = Check.with("ab c", "ab [1]");
        in.weight(10);
        Check.ask(in, "ab c [1]");
        dueTagSteps(in, 1, 0);
        dueRanks(in, 1, 0);
        NearPhrases several = Check.with("[3] [4]", "[1] [4]", "[1] [2]", "[2] [1] [2]");
        several.bound(0);
        Check.ask(several, "[1] [2]");
        dueTagSteps(several, 2, 1, 0, 1);
        dueRanks(several, 2, 3, 1, 0);
    }

    private static void dueTagSteps(NearPhrases x, int... want) {
        for (int i = 0; i < want.length; i++) {
            dueNear(x, i, 9, want[i]);
        }
    }

    private static void lesserNumber() {
        NearPhrases x = Check.withTwelve();
        x.bound(0);
        Check.ask(x, "z");
        dueRanks(x, 0, 1, 2, 3, 4, 5, 6, 7, 8, 9, 10, 11);
        x.drop(0);
        Check.keep(x, "a");
        dueRanks(x, 0, 1, 2, 3, 4, 5, 6, 7, 8, 9, 10, 11);
        Check.ask(x, "a");
        dueRanks(x, 11, 0, 1, 2, 3, 4, 5, 6, 7, 8, 9, 10);
    }

    private static void segmentIsTheOne() {
        dueKinds("a", "a b", 5, "02");
        dueKinds("a b", "a", 5, "01");
        dueKinds("[1] a", "a [1] b", 5, "1022");
        dueKinds("a [1] b", "[1] a", 5, "100");
        NearPhrases x = Check.asking("a [1] b", "[1] a");
        dueNear(x, 0, 4, 4);
        NearPhrases y = Check.asking("[1] a", "a [1] b");
        dueNear(y, 0, 4, 3);
    }

    private static void dueCovered(NearPhrases x, int... want) {
        int sum = 0;
        for (int sign = 0; sign < want.length; sign++) {
            due("covered(" + sign + ")", x.covered(sign), want[sign]);
            sum += want[sign];
        }
        due("question(9)", x.question(9), sum);
    }

    /** "abcdefghijkl" by "abcdefghijkx" costs 1, the least that is not nothing. */
    private static void bothAtNoCost() {
        NearPhrases x = Check.asking("a abcdefghijkl [1]", "a abcdefghijkx [2]");
        dueCovered(x, 1, 0, 0);
        x.weight(1);
        dueCovered(x, 1, 0, 0);
        Check.keep(x, "b abcdefghijkl [1]");
        dueCovered(x, 1, 1, 1);
        x.bound(1000);
        dueCovered(x, 0, 0, 0);
        Check.keep(x, "a abcdefghijkl [1]");
        dueCovered(x, 1, 1, 1);
        NearPhrases eight = Check.asking("a b c d e f g h", "b c d e f g h a");
        dueCovered(eight, 0, 1, 1, 1, 1, 1, 1, 1);
        NearPhrases none = Check.asking("[1]", "a");
        none.bound(0);
        dueCovered(none, 0);
    }
}
