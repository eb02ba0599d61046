import java.io.IOException;

/** What the document names as a boundary in the promises 1 to 9, a test for each sentence. */
public final class EdgesOfTextsTest {
    private static final int[] EXTREMES = {Integer.MIN_VALUE, Integer.MIN_VALUE + 1, Integer.MAX_VALUE};
    private static final String FULL_PAGE = "abcdefghijkl abcdefghijkl abcdefghijkl abcdefghi";
    private static final Check CHECK = new Check("EdgesOfTextsTest");

    public static void main(String[] args) throws IOException {
        Edges edges = new Edges(CHECK, args);
        ofThePage(edges);
        ofKeeping(edges);
        ofAskingAndSetting(edges);
        edges.end();
    }

    private static void ofThePage(Edges edges) {
        edges.sentence("`NearPhrases()`: Nothing KEPT, no QUESTION.", EdgesOfTextsTest::nothingAtFirst);
        edges.sentence("A letter comes behind THE PAGE, told by its code: how many THE PAGE has.",
                EdgesOfTextsTest::lettersComeBehind);
        edges.sentence("OUTSIDE: code (32 to 126)", EdgesOfTextsTest::codesOutside);
        edges.sentence("FULL: above 48.", EdgesOfTextsTest::aboveFortyEight);
        edges.sentence("THE PAGE is empty: how many letters it had.", EdgesOfTextsTest::blankOfEmptyAndFull);
        edges.sentence("The place (from 0) of the first letter of THE PAGE that no SEGMENT has there, behind "
                + "those ahead of it",
                EdgesOfTextsTest::placeOfTheFault);
        edges.sentence("how many letters it has, if there is none.", EdgesOfTextsTest::noFault);
    }

    private static void ofKeeping(Edges edges) {
        edges.sentence("THE PAGE is read as a SEGMENT that is KEPT: its number", EdgesOfTextsTest::numberOfTheKept);
        edges.sentence("if one of the same SIGNS is KEPT already, the number of that (no other one comes)",
                EdgesOfTextsTest::keptAlready);
        edges.sentence("THE PAGE is empty then. STATE: it is none; FULL", EdgesOfTextsTest::pageBehindKeep);
        edges.sentence("STATE: it is none; FULL: twelve are KEPT", EdgesOfTextsTest::keepOfNone);
        edges.sentence("FULL: twelve are KEPT (and none is the same).", EdgesOfTextsTest::keepWhenFull);
        edges.sentence("A SEGMENT is not KEPT any more (those behind it have a number less by 1): how many are left.",
                EdgesOfTextsTest::numbersBehindADrop);
        edges.sentence("how many are left. UNKNOWN.", EdgesOfTextsTest::dropOfUnknown);
    }

    private static void ofAskingAndSetting(Edges edges) {
        edges.sentence("THE PAGE is read as THE QUESTION: how many SIGNS it has; THE PAGE is empty then.",
                EdgesOfTextsTest::signsOfTheQuestion);
        edges.sentence("how many SIGNS it has; THE PAGE is empty then. STATE: it is none.",
                EdgesOfTextsTest::askOfNone);
        edges.sentence("WEIGHT is another one: which it was.", EdgesOfTextsTest::weightThatWas);
        edges.sentence("WEIGHT is another one: which it was. OUTSIDE.", EdgesOfTextsTest::weightOutside);
        edges.sentence("BOUND is another one: which it was.", EdgesOfTextsTest::boundThatWas);
        edges.sentence("BOUND is another one: which it was. OUTSIDE.", EdgesOfTextsTest::boundOutside);
    }

    private static void due(String call, long got, long want) {
        CHECK.due(call, got, want);
    }

    private static void nothingAtFirst() {
        NearPhrases x = new NearPhrases();
        due("count(1)", x.count(1), 0);
        due("segment(0, 0)", x.segment(0, 0), NearPhrases.UNKNOWN);
        due("question(0)", x.question(0), NearPhrases.STATE);
        due("rank(0)", x.rank(0), NearPhrases.STATE);
        due("covered(0)", x.covered(0), NearPhrases.STATE);
        due("count(0)", x.count(0), 0);
        due("gram(^a)", x.gram('^', 'a'), 0);
        due("count(7)", x.count(7), 0);
    }

    /** An object of its own stands beside it: what comes to the one is not seen by the other. */
    private static void lettersComeBehind() {
        NearPhrases x = new NearPhrases();
        NearPhrases beside = new NearPhrases();
        for (int i = 0; i < FULL_PAGE.length(); i++) {
            due("letter " + i, x.letter(FULL_PAGE.charAt(i)), i + 1);
        }
        due("count(0) beside", beside.count(0), 0);
        due("keep()", x.keep(), 0);
        for (int sign = 0; sign < 4; sign++) {
            for (int what = 2; what < 11; what++) {
                due("sign(0, " + sign + ", " + what + ")", x.sign(0, sign, what), 'a' + what - 2);
            }
        }
        due("count(1) beside", beside.count(1), 0);
    }

    private static void codesOutside() {
        NearPhrases x = new NearPhrases();
        int had = 0;
        for (int code = 0; code <= 160; code++) {
            boolean fits = code >= 32 && code <= 126;
            if (had == 48) {
                due("blank()", x.blank(), 48);
                had = 0;
            }
            had += fits ? 1 : 0;
            due("letter(" + code + ")", x.letter(code), fits ? had : NearPhrases.OUTSIDE);
            due("count(0) behind letter(" + code + ")", x.count(0), had);
        }
        for (int code : new int[] {-1, -97, 256 + 97, 65536 + 97, Integer.MIN_VALUE + 97}) {
            due("letter(" + code + ")", x.letter(code), NearPhrases.OUTSIDE);
        }
        for (int code : EXTREMES) {
            due("letter(" + code + ")", x.letter(code), NearPhrases.OUTSIDE);
        }
        due("count(0) at last", x.count(0), had);
    }

    private static void aboveFortyEight() {
        NearPhrases x = new NearPhrases();
        for (int n = 1; n <= 48; n++) {
            due("letter as number " + n, x.letter(126), n);
        }
        due("letter as number 49", x.letter(126), NearPhrases.FULL);
        due("count(0)", x.count(0), 48);
        due("letter as number 49 again", x.letter(32), NearPhrases.FULL);
        due("blank()", x.blank(), 48);
        due("letter behind blank()", x.letter('a'), 1);
        NearPhrases y = new NearPhrases();
        Check.type(y, FULL_PAGE);
        due("letter behind a full segment", y.letter('j'), NearPhrases.FULL);
        due("keep() behind FULL", y.keep(), 0);
        due("its grams", y.segment(0, 3), 49);
        due("letter behind keep()", y.letter('j'), 1);
    }

    private static void blankOfEmptyAndFull() {
        NearPhrases x = new NearPhrases();
        due("blank() of an empty page", x.blank(), 0);
        x.letter('?');
        due("blank() of one", x.blank(), 1);
        due("count(0) then", x.count(0), 0);
        due("blank() then", x.blank(), 0);
        Check.type(x, FULL_PAGE);
        due("blank() of a full page", x.blank(), 48);
        due("count(0) at last", x.count(0), 0);
        due("keep() of what is gone", x.keep(), NearPhrases.STATE);
    }

    private static void dueFault(String text, int want) {
        NearPhrases x = new NearPhrases();
        Check.type(x, text);
        due("fault() of \"" + text + "\"", x.fault(), want);
        due("fault() of \"" + text + "\" again", x.fault(), want);
        due("count(0) behind it", x.count(0), text.length());
    }

    /** Each text is right up to the fault: what is wrong stands at the first place, at the last, or within. */
    private static void placeOfTheFault() {
        dueFault(" ", 0);
        dueFault("1", 0);
        dueFault("]", 0);
        dueFault("`", 0);
        dueFault("{a", 0);
        dueFault("aB", 1);
        dueFault("a[", 1);
        dueFault("a  ", 2);
        dueFault("a 1", 2);
        dueFault("[0]", 1);
        dueFault("[:]", 1);
        dueFault("[ ", 1);
        dueFault("[1[", 2);
        dueFault("[12", 2);
        dueFault("[1]]", 3);
        dueFault("[1]a", 3);
        dueFault("abcdefghijklm", 12);
        dueFault("abcdefghijkl[", 12);
        dueFault("a abcdefghijklm", 14);
        dueFault("a b c d e f g h ", 15);
        dueFault("a b c d e f g h i", 15);
        dueFault("[1] [2] [3] [4] [5] [6] [7] [8] ", 31);
        dueFault("abcdefghijkl abcdefghijkl abcdefghijkl abcdefgh?", 47);
        dueFault("abcdefghijkl abcdefghijkl abcdefghi ??? abcdefgh", 36);
        dueFault("a b c d e f g abcdefghijklm", 26);
    }

    /** A page that is no SEGMENT yet, but would be one with more letters, has no fault. */
    private static void noFault() {
        dueFault("", 0);
        dueFault("a", 1);
        dueFault("a ", 2);
        dueFault("[", 1);
        dueFault("[1", 2);
        dueFault("[9]", 3);
        dueFault("[9] ", 4);
        dueFault("abcdefghijkl", 12);
        dueFault("abcdefghijkl ", 13);
        dueFault("a b c d e f g ", 14);
        dueFault("a b c d e f g [", 15);
        dueFault("a b c d e f g abcdefghijkl", 26);
        dueFault("[1] [2] [3] [4] [5] [6] [7] [8]", 31);
        dueFault(FULL_PAGE, 48);
        dueFault("abcdefghijkl abcdefghijkl abcdefghijkl abcdefgh ", 48);
        dueFault("abcdefghijkl abcdefghijkl abcdefghijkl abcdefg [", 48);
    }

    private static void numberOfTheKept() {
        NearPhrases x = new NearPhrases();
        due("keep() of the shortest", Check.keep(x, "a"), 0);
        due("keep() of a tag", Check.keep(x, "[1]"), 1);
        due("keep() of a full page", Check.keep(x, FULL_PAGE), 2);
        due("keep() of eight signs", Check.keep(x, "a b c d e f g h"), 3);
        due("sign(2, 3, 0)", x.sign(2, 3, 0), 9);
        due("sign(3, 7, 2)", x.sign(3, 7, 2), 'h');
        x.drop(3);
        x.drop(0);
        due("keep() behind two drops", Check.keep(x, "b"), 2);
        NearPhrases asked = Check.asking("a", "b");
        due("question(5)", asked.question(5), 0);
        due("keep() behind a question", Check.keep(asked, "a"), 1);
        due("question(5) then", asked.question(5), 1);
    }

    /** The texts that are not the same differ in one thing each: letters, length, digit, kind, order, number. */
    private static void keptAlready() {
        NearPhrases x = Check.with("ab [1] c", "d");
        due("keep() of the first again", Check.keep(x, "ab [1] c"), 0);
        due("keep() of the second again", Check.keep(x, "d"), 1);
        due("count(1)", x.count(1), 2);
        due("segment(0, 5)", x.segment(0, 5), 2);
        due("segment(1, 5)", x.segment(1, 5), 2);
        due("count(2)", x.count(2), 4);
        due("count(7)", x.count(7), 7);
        String[] others = {"ax [1] c", "abb [1] c", "ab [2] c", "ab a c", "ab c [1]", "ab [1]", "ab [1] c [1]", "e"};
        for (int i = 0; i < others.length; i++) {
            due("keep() of \"" + others[i] + "\"", Check.keep(x, others[i]), 2 + i);
        }
        x.drop(0);
        due("keep() of the first, which was dropped", Check.keep(x, "ab [1] c"), 9);
        due("keep() of the second, a number less", Check.keep(x, "d"), 0);
        Check.ask(x, "z");
        due("keep() of what was asked", Check.keep(x, "z"), 10);
    }

    private static void pageBehindKeep() {
        NearPhrases x = new NearPhrases();
        Check.keep(x, "a");
        due("count(0) behind keep()", x.count(0), 0);
        due("fault() behind keep()", x.fault(), 0);
        due("keep() of nothing", x.keep(), NearPhrases.STATE);
        Check.keep(x, "a");
        due("count(0) behind keep() of the same", x.count(0), 0);
        due("letter behind it", x.letter('b'), 1);
        Check.keep(x, " ");
        due("count(0) behind a refusal", x.count(0), 2);
    }

    private static void keepOfNone() {
        for (String text : new String[] {"", " ", "a ", " a", "[", "[1", "[1] ", "A", "a  b", "abcdefghijklm", "[0]",
                "a b c d e f g h i", "a b c d e f g h "}) {
            NearPhrases x = new NearPhrases();
            due("keep() of \"" + text + "\"", Check.keep(x, text), NearPhrases.STATE);
            due("count(1) then", x.count(1), 0);
            due("count(2) then", x.count(2), 0);
            due("blank() then", x.blank(), text.length());
        }
    }

    private static void keepWhenFull() {
        NearPhrases x = Check.withTwelve();
        due("keep() of another", Check.keep(x, "m"), NearPhrases.FULL);
        due("keep() of it again", x.keep(), NearPhrases.FULL);
        due("blank()", x.blank(), 1);
        due("keep() of the first", Check.keep(x, "a"), 0);
        due("keep() of the last", Check.keep(x, "l"), 11);
        due("count(1)", x.count(1), 12);
        due("count(2)", x.count(2), 14);
        x.drop(11);
        due("keep() with room for one", Check.keep(x, "m"), 11);
        due("keep() of the one that gave it", Check.keep(x, "l"), NearPhrases.FULL);
        NearPhrases eleven = Check.withTwelve();
        eleven.drop(0);
        due("keep() as the twelfth", Check.keep(eleven, "a b c d e f g h"), 11);
    }

    private static void numbersBehindADrop() {
        NearPhrases x = Check.withTwelve();
        Check.keep(x, "l");
        due("drop(0)", x.drop(0), 11);
        due("drop(10), the last", x.drop(10), 10);
        due("drop(4), within", x.drop(4), 9);
        String left = "bcdeghijk";
        for (int i = 0; i < left.length(); i++) {
            due("sign(" + i + ", 0, 2)", x.sign(i, 0, 2), left.charAt(i));
        }
        due("segment(9, 0)", x.segment(9, 0), NearPhrases.UNKNOWN);
        for (int i = 8; i >= 0; i--) {
            due("drop(0) with " + i + " behind it", x.drop(0), i);
        }
        due("count(1)", x.count(1), 0);
        due("keep() then", Check.keep(x, "l"), 0);
        due("segment(0, 5), as it comes", x.segment(0, 5), 1);
        NearPhrases asked = Check.asking("a", "a", "b", "a b");
        due("near(0, 0)", asked.near(0, 0), 0);
        asked.drop(0);
        due("near(0, 0), of the one behind", asked.near(0, 0), 10);
        due("near(1, 4), of the last", asked.near(1, 4), 2);
    }

    private static void dropOfUnknown() {
        NearPhrases none = new NearPhrases();
        due("drop(0) of nothing", none.drop(0), NearPhrases.UNKNOWN);
        due("drop(-1) of nothing", none.drop(-1), NearPhrases.UNKNOWN);
        NearPhrases x = Check.withTwelve();
        for (int number : new int[] {-1, 12, 13}) {
            due("drop(" + number + ")", x.drop(number), NearPhrases.UNKNOWN);
        }
        for (int number : EXTREMES) {
            due("drop(" + number + ")", x.drop(number), NearPhrases.UNKNOWN);
        }
        due("count(1)", x.count(1), 12);
        due("count(3)", x.count(3), 0);
        due("drop(11)", x.drop(11), 11);
        due("drop(11) again", x.drop(11), NearPhrases.UNKNOWN);
    }

    private static void signsOfTheQuestion() {
        NearPhrases x = new NearPhrases();
        due("ask() of one sign", Check.ask(x, "a"), 1);
        due("count(0) behind ask()", x.count(0), 0);
        due("ask() of one tag", Check.ask(x, "[9]"), 1);
        due("ask() of eight signs", Check.ask(x, "a b c d e f g [1]"), 8);
        due("ask() of a full page", Check.ask(x, FULL_PAGE), 4);
        due("count(0) at last", x.count(0), 0);
        due("question(0)", x.question(0), 4);
        due("question(2), the tags of the one ahead are gone", x.question(2), 0);
        due("count(1)", x.count(1), 0);
        NearPhrases full = Check.withTwelve();
        due("ask() when twelve are kept", Check.ask(full, "m"), 1);
    }

    private static void askOfNone() {
        for (String text : new String[] {"", " ", "a ", " a", "[", "[1", "[1] ", "A", "a  b", "abcdefghijklm", "[0]",
                "a b c d e f g h i", "a b c d e f g h "}) {
            NearPhrases x = new NearPhrases();
            due("ask() of \"" + text + "\"", Check.ask(x, text), NearPhrases.STATE);
            due("count(4) then", x.count(4), 0);
            due("question(0) then", x.question(0), NearPhrases.STATE);
            due("blank() then", x.blank(), text.length());
            Check.ask(x, "a [1]");
            due("ask() of \"" + text + "\" behind a question", Check.ask(x, text), NearPhrases.STATE);
            due("question(0) stays", x.question(0), 2);
            due("count(4) stays", x.count(4), 1);
        }
    }

    private static void weightThatWas() {
        NearPhrases x = new NearPhrases();
        due("weight(20)", x.weight(20), 5);
        due("weight(20) again", x.weight(20), 20);
        due("weight(1)", x.weight(1), 20);
        due("weight(5)", x.weight(5), 1);
        due("count(5)", x.count(5), 5);
        due("weight(5) beside", new NearPhrases().weight(5), 5);
        NearPhrases asked = Check.asking("a", "a [1]");
        due("near(0, 0) at first", asked.near(0, 0), 5);
        asked.weight(20);
        due("near(0, 0) at 20", asked.near(0, 0), 20);
        asked.weight(1);
        due("near(0, 0) at 1", asked.near(0, 0), 1);
    }

    private static void weightOutside() {
        NearPhrases x = new NearPhrases();
        for (int v = -3; v <= 24; v++) {
            boolean fits = v >= 1 && v <= 20;
            int was = x.count(5);
            due("weight(" + v + ")", x.weight(v), fits ? was : NearPhrases.OUTSIDE);
            due("count(5) behind weight(" + v + ")", x.count(5), fits ? v : was);
        }
        for (int v : EXTREMES) {
            due("weight(" + v + ")", x.weight(v), NearPhrases.OUTSIDE);
        }
        due("count(5) at last", x.count(5), 20);
    }

    private static void boundThatWas() {
        NearPhrases x = new NearPhrases();
        due("bound(1000)", x.bound(1000), 700);
        due("bound(1000) again", x.bound(1000), 1000);
        due("bound(0)", x.bound(0), 1000);
        due("bound(700)", x.bound(700), 0);
        due("count(6)", x.count(6), 700);
        due("bound(5) beside", new NearPhrases().bound(5), 700);
        NearPhrases asked = Check.asking("a", "a [1]");
        due("near(0, 5) at first", asked.near(0, 5), 7);
        asked.bound(0);
        due("near(0, 5) at 0", asked.near(0, 5), 25);
        asked.bound(1000);
        due("near(0, 5) at 1000", asked.near(0, 5), 0);
    }

    private static void boundOutside() {
        NearPhrases x = new NearPhrases();
        for (int v : new int[] {-2, -1, 1001, 1002, -1000}) {
            due("bound(" + v + ")", x.bound(v), NearPhrases.OUTSIDE);
        }
        for (int v : EXTREMES) {
            due("bound(" + v + ")", x.bound(v), NearPhrases.OUTSIDE);
        }
        due("count(6)", x.count(6), 700);
        due("bound(0)", x.bound(0), 700);
        due("bound(1)", x.bound(1), 0);
        due("bound(999)", x.bound(999), 1);
        due("bound(1000)", x.bound(1000), 999);
        due("count(6) at last", x.count(6), 1000);
    }
}
