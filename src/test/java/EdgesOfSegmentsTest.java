import java.io.IOException;

/** What the document names as a boundary in the promises 10 to 14, a test for each sentence. */
public final class EdgesOfSegmentsTest {
    private static final int[] EXTREMES = {-1, Integer.MIN_VALUE, Integer.MIN_VALUE + 1, Integer.MAX_VALUE};
    private static final String FULL_PAGE = "abcdefghijkl abcdefghijkl abcdefghijkl abcdefghi";
    private static final String EIGHT_WORDS = "a b c d e f g h";
    private static final String EIGHT_TAGS = "[1] [2] [3] [4] [5] [6] [7] [9]";
    private static final Check CHECK = new Check("EdgesOfSegmentsTest");

    public static void main(String[] args) throws IOException {
        Edges edges = new Edges(CHECK, args);
        ofSegments(edges);
        ofSigns(edges);
        ofTwo(edges);
        ofGrams(edges);
        edges.end();
    }

    private static void ofSegments(Edges edges) {
        edges.sentence("what = 0 how many SIGNS, 1 WORDS, 2 TAGS, 3 GRAMS it has, 4 what all its SIGNS cost",
                EdgesOfSegmentsTest::leastAndMostOfASegment);
        edges.sentence("5 how often it was told by keep() (1 as it comes)", EdgesOfSegmentsTest::howOftenTold);
        edges.sentence("(1 as it comes). UNKNOWN; OUTSIDE.", EdgesOfSegmentsTest::segmentUnknown);
        edges.sentence("UNKNOWN; OUTSIDE.\n\n## Promise 11", EdgesOfSegmentsTest::segmentOutside);
    }

    private static void ofSigns(Edges edges) {
        edges.sentence("what = 0 how many letters a WORD has (0: it is a TAG)", EdgesOfSegmentsTest::lettersOfASign);
        edges.sentence("1 the digit of a TAG (0: it is a WORD)", EdgesOfSegmentsTest::digitOfASign);
        edges.sentence("2 to 13 the codes of the letters of a WORD, from the first on (NONE: it has not so many, "
                + "or it is a TAG)",
                EdgesOfSegmentsTest::codesOfASign);
        edges.sentence("UNKNOWN: segment, sign; OUTSIDE: what.", EdgesOfSegmentsTest::signUnknown);
        edges.sentence("sign; OUTSIDE: what.", EdgesOfSegmentsTest::signOutside);
        edges.sentence("ALIKE of two WORDS; NONE: one of both is a TAG.", EdgesOfSegmentsTest::alikeOfATag);
        edges.sentence("UNKNOWN: a, i, b, j (the SIGN i of a, j of b).", EdgesOfSegmentsTest::alikeUnknown);
    }

    private static void ofTwo(Edges edges) {
        edges.sentence("Of two SEGMENTS that are KEPT (the same one, too)", EdgesOfSegmentsTest::theSameOneToo);
        edges.sentence("what = 0 FAR, 1 ALL, 2 SCORE, 3 SHARED, 4 how many STEPS. UNKNOWN: a, b",
                EdgesOfSegmentsTest::leastAndMostOfTwo);
        edges.sentence("UNKNOWN: a, b; OUTSIDE.", EdgesOfSegmentsTest::twoUnknown);
        edges.sentence("a, b; OUTSIDE.", EdgesOfSegmentsTest::twoOutside);
    }

    private static void ofGrams(Edges edges) {
        edges.sentence("In how many SEGMENTS that are KEPT the GRAM of two signs is",
                EdgesOfSegmentsTest::howManyHaveIt);
        edges.sentence("told by their codes (\"^\" and \"$\" too)", EdgesOfSegmentsTest::edgesOfWords);
        edges.sentence("OUTSIDE: one (\"^\", or a letter \"a\" to \"z\")", EdgesOfSegmentsTest::oneOutside);
        edges.sentence("other (\"$\", or such a letter", EdgesOfSegmentsTest::otherOutside);
        edges.sentence("not both \"^\" and \"$\")", EdgesOfSegmentsTest::notBothEdges);
    }

    private static void due(String call, long got, long want) {
        CHECK.due(call, got, want);
    }

    private static void dueSegment(NearPhrases x, int segment, int... want) {
        for (int what = 0; what < want.length; what++) {
            due("segment(" + segment + ", " + what + ")", x.segment(segment, what), want[what]);
        }
    }

    private static void leastAndMostOfASegment() {
        NearPhrases x = Check.with("a", "[1]", EIGHT_WORDS, EIGHT_TAGS, FULL_PAGE, "abcdefghijkl [1]");
        dueSegment(x, 0, 1, 1, 0, 2, 10);
        dueSegment(x, 1, 1, 0, 1, 0, 5);
        dueSegment(x, 2, 8, 8, 0, 16, 80);
        dueSegment(x, 3, 8, 0, 8, 0, 40);
        dueSegment(x, 4, 4, 4, 0, 49, 40);
        dueSegment(x, 5, 2, 1, 1, 13, 15);
        x.weight(20);
        dueSegment(x, 3, 8, 0, 8, 0, 160);
        dueSegment(x, 5, 2, 1, 1, 13, 30);
        x.weight(1);
        dueSegment(x, 1, 1, 0, 1, 0, 1);
        dueSegment(x, 3, 8, 0, 8, 0, 8);
    }

    private static void howOftenTold() {
        NearPhrases x = Check.with("a", "b");
        due("as it comes", x.segment(0, 5), 1);
        for (int times = 2; times <= 200; times++) {
            Check.keep(x, "a");
        }
        due("told 200 times", x.segment(0, 5), 200);
        due("the other one", x.segment(1, 5), 1);
        Check.keep(x, "A");
        due("behind a refusal", x.segment(0, 5), 200);
        x.blank();
        Check.ask(x, "a");
        due("behind ask()", x.segment(0, 5), 200);
        x.drop(0);
        due("the other one, a number less", x.segment(0, 5), 1);
        Check.keep(x, "a");
        due("as it comes again", x.segment(1, 5), 1);
        NearPhrases full = Check.withTwelve();
        Check.keep(full, "m");
        due("the last behind FULL", full.segment(11, 5), 1);
        full.blank();
        Check.keep(full, "l");
        due("the last told when full", full.segment(11, 5), 2);
    }

    private static void segmentUnknown() {
        NearPhrases none = new NearPhrases();
        due("segment(0, 0) of nothing", none.segment(0, 0), NearPhrases.UNKNOWN);
        due("segment(-1, 0) of nothing", none.segment(-1, 0), NearPhrases.UNKNOWN);
        NearPhrases x = Check.withTwelve();
        due("segment(0, 0)", x.segment(0, 0), 1);
        due("segment(11, 0)", x.segment(11, 0), 1);
        due("segment(12, 0)", x.segment(12, 0), NearPhrases.UNKNOWN);
        for (int number : EXTREMES) {
            due("segment(" + number + ", 0)", x.segment(number, 0), NearPhrases.UNKNOWN);
            due("segment(" + number + ", " + number + ")", x.segment(number, number), NearPhrases.UNKNOWN);
        }
        x.drop(3);
        due("segment(11, 0) behind a drop", x.segment(11, 0), NearPhrases.UNKNOWN);
    }

    private static void segmentOutside() {
        NearPhrases x = Check.with("a");
        due("segment(0, 5)", x.segment(0, 5), 1);
        due("segment(0, 6)", x.segment(0, 6), NearPhrases.OUTSIDE);
        for (int what : EXTREMES) {
            due("segment(0, " + what + ")", x.segment(0, what), NearPhrases.OUTSIDE);
        }
        due("segment(1, 6)", x.segment(1, 6), NearPhrases.UNKNOWN);
    }

    private static void lettersOfASign() {
        NearPhrases x = Check.with("a [1] abcdefghijkl [9]", EIGHT_WORDS);
        due("of one letter", x.sign(0, 0, 0), 1);
        due("of twelve letters", x.sign(0, 2, 0), 12);
        due("of a tag", x.sign(0, 1, 0), 0);
        due("of a tag at the end", x.sign(0, 3, 0), 0);
        due("of the eighth", x.sign(1, 7, 0), 1);
    }

    private static void digitOfASign() {
        NearPhrases x = Check.with(EIGHT_TAGS, "[8] a");
        int[] due = {1, 2, 3, 4, 5, 6, 7, 9};
        for (int sign = 0; sign < due.length; sign++) {
            due("digit of tag " + sign, x.sign(0, sign, 1), due[sign]);
        }
        due("digit of [8]", x.sign(1, 0, 1), 8);
        due("digit of a word", x.sign(1, 1, 1), 0);
        x.drop(0);
        x.drop(0);
        Check.keep(x, "a b c d e f g h");
        Check.keep(x, "i j");
        for (int sign = 0; sign < 8; sign++) {
            due("digit of word " + sign + " in a row that had tags", x.sign(0, sign, 1), 0);
        }
        due("digit of a word in the other row", x.sign(1, 0, 1), 0);
        due("kept already, in rows that had tags", Check.keep(x, "i j"), 1);
    }

    /** The same row is read into again: a shorter word and a tag come where the longest word stood. */
    private static void codesOfASign() {
        NearPhrases x = Check.with("abcdefghijkl z [5]");
        for (int what = 2; what <= 13; what++) {
            due("sign(0, 0, " + what + ")", x.sign(0, 0, what), 'a' + what - 2);
            due("sign(0, 1, " + what + ")", x.sign(0, 1, what), what == 2 ? 'z' : NearPhrases.NONE);
            due("sign(0, 2, " + what + ")", x.sign(0, 2, what), NearPhrases.NONE);
        }
        x.drop(0);
        Check.keep(x, "[3] abcdefghijkl k");
        for (int what = 2; what <= 13; what++) {
            due("then sign(0, 0, " + what + ")", x.sign(0, 0, what), NearPhrases.NONE);
            due("then sign(0, 1, " + what + ")", x.sign(0, 1, what), 'a' + what - 2);
            due("then sign(0, 2, " + what + ")", x.sign(0, 2, what), what == 2 ? 'k' : NearPhrases.NONE);
        }
        NearPhrases eleven = Check.with("abcdefghijk");
        due("the eleventh", eleven.sign(0, 0, 12), 'k');
        due("the twelfth of eleven", eleven.sign(0, 0, 13), NearPhrases.NONE);
    }

    private static void signUnknown() {
        NearPhrases x = Check.with("a b", EIGHT_WORDS);
        due("sign(0, 0, 0)", x.sign(0, 0, 0), 1);
        due("sign(0, 1, 0)", x.sign(0, 1, 0), 1);
        due("sign(0, 2, 0)", x.sign(0, 2, 0), NearPhrases.UNKNOWN);
        due("sign(1, 7, 0)", x.sign(1, 7, 0), 1);
        due("sign(1, 8, 0)", x.sign(1, 8, 0), NearPhrases.UNKNOWN);
        due("sign(2, 0, 0)", x.sign(2, 0, 0), NearPhrases.UNKNOWN);
        due("sign(2, 0, 14)", x.sign(2, 0, 14), NearPhrases.UNKNOWN);
        due("sign(0, 2, 14)", x.sign(0, 2, 14), NearPhrases.UNKNOWN);
        for (int number : EXTREMES) {
            due("sign(" + number + ", 0, 0)", x.sign(number, 0, 0), NearPhrases.UNKNOWN);
            due("sign(0, " + number + ", 0)", x.sign(0, number, 0), NearPhrases.UNKNOWN);
            due("sign(" + number + ", 0, -1)", x.sign(number, 0, -1), NearPhrases.UNKNOWN);
            due("sign(0, " + number + ", -1)", x.sign(0, number, -1), NearPhrases.UNKNOWN);
        }
        due("sign(0, 0, 0) of nothing", new NearPhrases().sign(0, 0, 0), NearPhrases.UNKNOWN);
    }

    private static void signOutside() {
        NearPhrases x = Check.with("abcdefghijkl [1]");
        for (int sign = 0; sign < 2; sign++) {
            due("sign(0, " + sign + ", 14)", x.sign(0, sign, 14), NearPhrases.OUTSIDE);
            for (int what : EXTREMES) {
                due("sign(0, " + sign + ", " + what + ")", x.sign(0, sign, what), NearPhrases.OUTSIDE);
            }
        }
        due("sign(0, 0, 13)", x.sign(0, 0, 13), 'l');
        due("sign(0, 1, 13)", x.sign(0, 1, 13), NearPhrases.NONE);
    }

    private static void alikeOfATag() {
        NearPhrases x = Check.with("a [1]", "[1] a");
        due("two words", x.alike(0, 0, 1, 1), 0);
        due("a word and a tag", x.alike(0, 0, 1, 0), NearPhrases.NONE);
        due("a tag and a word", x.alike(0, 1, 1, 1), NearPhrases.NONE);
        due("two tags", x.alike(0, 1, 1, 0), NearPhrases.NONE);
        due("a tag and itself", x.alike(0, 1, 0, 1), NearPhrases.NONE);
        due("a word and itself", x.alike(0, 0, 0, 0), 0);
    }

    private static void alikeUnknown() {
        NearPhrases x = Check.with("a [1]", "b c d");
        due("alike(0, 0, 1, 2)", x.alike(0, 0, 1, 2), 10);
        due("alike(1, 2, 0, 0)", x.alike(1, 2, 0, 0), 10);
        due("alike(2, 0, 0, 0)", x.alike(2, 0, 0, 0), NearPhrases.UNKNOWN);
        due("alike(0, 2, 0, 0)", x.alike(0, 2, 0, 0), NearPhrases.UNKNOWN);
        due("alike(0, 2, 1, 2)", x.alike(0, 2, 1, 2), NearPhrases.UNKNOWN);
        due("alike(0, 0, 2, 0)", x.alike(0, 0, 2, 0), NearPhrases.UNKNOWN);
        due("alike(0, 0, 0, 2)", x.alike(0, 0, 0, 2), NearPhrases.UNKNOWN);
        due("alike(1, 2, 0, 2)", x.alike(1, 2, 0, 2), NearPhrases.UNKNOWN);
        due("a tag ahead of UNKNOWN", x.alike(0, 1, 1, 3), NearPhrases.UNKNOWN);
        due("a tag behind UNKNOWN", x.alike(1, 3, 0, 1), NearPhrases.UNKNOWN);
        for (int number : EXTREMES) {
            due("alike with a " + number, x.alike(number, 0, 1, 0), NearPhrases.UNKNOWN);
            due("alike with i " + number, x.alike(0, number, 1, 0), NearPhrases.UNKNOWN);
            due("alike with b " + number, x.alike(0, 0, number, 0), NearPhrases.UNKNOWN);
            due("alike with j " + number, x.alike(0, 0, 1, number), NearPhrases.UNKNOWN);
        }
        due("alike of nothing", new NearPhrases().alike(0, 0, 0, 0), NearPhrases.UNKNOWN);
    }

    private static void dueTwo(NearPhrases x, int a, int b, int... want) {
        for (int what = 0; what < want.length; what++) {
            due("two(" + a + ", " + b + ", " + what + ")", x.two(a, b, what), want[what]);
        }
    }

    private static void theSameOneToo() {
        NearPhrases x = Check.with("a", "[1]", EIGHT_WORDS, EIGHT_TAGS, FULL_PAGE);
        dueTwo(x, 0, 0, 0, 20, 1000, 2, 1);
        dueTwo(x, 1, 1, 0, 10, 1000, 0, 1);
        dueTwo(x, 2, 2, 0, 160, 1000, 16, 8);
        dueTwo(x, 3, 3, 0, 80, 1000, 0, 8);
        dueTwo(x, 4, 4, 0, 80, 1000, 49, 4);
    }

    /** Eight words and eight tags are sixteen steps; "a" goes best with "abcdefghi": 80 by 9, rounded up. */
    private static void leastAndMostOfTwo() {
        NearPhrases x = Check.with(EIGHT_WORDS, EIGHT_TAGS, "a", "[1]", FULL_PAGE);
        x.weight(20);
        dueTwo(x, 0, 1, 240, 240, 0, 0, 16);
        dueTwo(x, 1, 0, 240, 240, 0, 0, 16);
        x.weight(1);
        dueTwo(x, 0, 1, 88, 88, 0, 0, 16);
        dueTwo(x, 2, 3, 11, 11, 0, 0, 2);
        dueTwo(x, 3, 1, 7, 9, 222, 0, 8);
        dueTwo(x, 0, 2, 70, 90, 222, 2, 8);
        dueTwo(x, 2, 4, 39, 50, 220, 1, 4);
    }

    private static void twoUnknown() {
        NearPhrases x = Check.with("a", "b");
        due("two(1, 0, 0)", x.two(1, 0, 0), 10);
        due("two(0, 2, 0)", x.two(0, 2, 0), NearPhrases.UNKNOWN);
        due("two(2, 0, 0)", x.two(2, 0, 0), NearPhrases.UNKNOWN);
        due("two(2, 2, 0)", x.two(2, 2, 0), NearPhrases.UNKNOWN);
        due("two(2, 0, 5)", x.two(2, 0, 5), NearPhrases.UNKNOWN);
        due("two(0, 2, 5)", x.two(0, 2, 5), NearPhrases.UNKNOWN);
        for (int number : EXTREMES) {
            due("two with a " + number, x.two(number, 0, 0), NearPhrases.UNKNOWN);
            due("two with b " + number, x.two(0, number, 0), NearPhrases.UNKNOWN);
            due("two with a and what " + number, x.two(number, 0, number), NearPhrases.UNKNOWN);
            due("two with b and what " + number, x.two(0, number, number), NearPhrases.UNKNOWN);
        }
        due("two(0, 0, 0) of nothing", new NearPhrases().two(0, 0, 0), NearPhrases.UNKNOWN);
        NearPhrases full = Check.withTwelve();
        due("two(11, 11, 2)", full.two(11, 11, 2), 1000);
        due("two(0, 12, 2)", full.two(0, 12, 2), NearPhrases.UNKNOWN);
        due("two(12, 0, 2)", full.two(12, 0, 2), NearPhrases.UNKNOWN);
    }

    /** What near() tells for 5 to 9 is nothing that two() tells. */
    private static void twoOutside() {
        NearPhrases x = Check.asking("a", "a", "b");
        for (int what = 5; what <= 10; what++) {
            due("two(0, 1, " + what + ")", x.two(0, 1, what), NearPhrases.OUTSIDE);
        }
        for (int what : EXTREMES) {
            due("two(0, 1, " + what + ")", x.two(0, 1, what), NearPhrases.OUTSIDE);
        }
        due("two(0, 1, 4)", x.two(0, 1, 4), 1);
    }

    private static void howManyHaveIt() {
        NearPhrases x = new NearPhrases();
        due("gram(aa) of nothing", x.gram('a', 'a'), 0);
        for (int i = 0; i < 12; i++) {
            Check.keep(x, "aaaa " + (char) ('a' + i));
            due("gram(aa) of " + (i + 1), x.gram('a', 'a'), i + 1);
        }
        due("gram(^a) of twelve", x.gram('^', 'a'), 12);
        due("gram(a$) of twelve", x.gram('a', '$'), 12);
        due("gram(^l), of the last alone", x.gram('^', 'l'), 1);
        Check.keep(x, "aaaa a");
        due("gram(aa) with one told again", x.gram('a', 'a'), 12);
        Check.keep(x, "zz");
        due("gram(zz) of what was refused", x.gram('z', 'z'), 0);
        x.ask();
        due("gram(zz) of the question", x.gram('z', 'z'), 0);
        for (int left = 11; left >= 0; left--) {
            x.drop(0);
            due("gram(aa) of " + left + " left", x.gram('a', 'a'), left);
        }
    }

    private static void edgesOfWords() {
        NearPhrases x = Check.with("az", "za b", "[1]");
        due("gram(^a)", x.gram('^', 'a'), 1);
        due("gram(^z)", x.gram('^', 'z'), 1);
        due("gram(^b)", x.gram('^', 'b'), 1);
        due("gram(a$)", x.gram('a', '$'), 1);
        due("gram(z$)", x.gram('z', '$'), 1);
        due("gram(b$)", x.gram('b', '$'), 1);
        due("gram(az)", x.gram('a', 'z'), 1);
        due("gram(za)", x.gram('z', 'a'), 1);
        due("gram(ab), over a space", x.gram('a', 'b'), 0);
        due("gram(zz)", x.gram('z', 'z'), 0);
        due("gram(aa)", x.gram('a', 'a'), 0);
    }

    private static void oneOutside() {
        NearPhrases x = Check.with("a");
        for (int code = 0; code <= 160; code++) {
            boolean fits = code == '^' || code >= 'a' && code <= 'z';
            due("gram(" + code + ", a)", x.gram(code, 'a'), !fits ? NearPhrases.OUTSIDE : code == '^' ? 1 : 0);
        }
        for (int code : EXTREMES) {
            due("gram(" + code + ", a)", x.gram(code, 'a'), NearPhrases.OUTSIDE);
            due("gram(" + code + ", $)", x.gram(code, '$'), NearPhrases.OUTSIDE);
        }
        due("gram($, $)", x.gram('$', '$'), NearPhrases.OUTSIDE);
        due("gram(256 + a, a)", x.gram(256 + 'a', 'a'), NearPhrases.OUTSIDE);
    }

    private static void otherOutside() {
        NearPhrases x = Check.with("a");
        for (int code = 0; code <= 160; code++) {
            boolean fits = code == '$' || code >= 'a' && code <= 'z';
            due("gram(a, " + code + ")", x.gram('a', code), !fits ? NearPhrases.OUTSIDE : code == '$' ? 1 : 0);
        }
        for (int code : EXTREMES) {
            due("gram(a, " + code + ")", x.gram('a', code), NearPhrases.OUTSIDE);
            due("gram(^, " + code + ")", x.gram('^', code), NearPhrases.OUTSIDE);
        }
        due("gram(^, ^)", x.gram('^', '^'), NearPhrases.OUTSIDE);
        due("gram(a, 256 + a)", x.gram('a', 256 + 'a'), NearPhrases.OUTSIDE);
    }

    private static void notBothEdges() {
        NearPhrases x = Check.with("a");
        due("gram(^$)", x.gram('^', '$'), NearPhrases.OUTSIDE);
        due("gram($^)", x.gram('$', '^'), NearPhrases.OUTSIDE);
        due("gram(^a)", x.gram('^', 'a'), 1);
        due("gram(a$)", x.gram('a', '$'), 1);
        due("gram(^$) of nothing", new NearPhrases().gram('^', '$'), NearPhrases.OUTSIDE);
    }
}
