/** Promises 10 to 14: what is told of the segments that are kept, and of their signs and grams. */
public final class SegmentsTest {
    private static final int[] WRONG = {-1, Integer.MIN_VALUE, Integer.MAX_VALUE};
    private static final Check CHECK = new Check("SegmentsTest");

    public static void main(String[] args) {
        segment();
        segmentOfTheLongest();
        sign();
        signRefusals();
        alike();
        alikeRefusals();
        two();
        twoOfTagsAndOrders();
        twoBothWays();
        scoreIsRoundedUp();
        shared();
        rowsUsedAgain();
        twoRefusals();
        gram();
        gramRefusals();
        CHECK.end();
    }

    private static void due(String call, long got, long want) {
        CHECK.due(call, got, want);
    }

    private static void dueSegment(NearPhrases x, int segment, int... want) {
        for (int what = 0; what < want.length; what++) {
            due("segment(" + segment + ", " + what + ")", x.segment(segment, what), want[what]);
        }
    }

    private static void dueTwo(NearPhrases x, int a, int b, int... want) {
        for (int what = 0; what < want.length; what++) {
            due("two(" + a + ", " + b + ", " + what + ")", x.two(a, b, what), want[what]);
        }
    }

    private static void segment() {
        NearPhrases x = Check.with("the cat [1] sat", "[3]", "a", "[3]", "[3]");
        dueSegment(x, 0, 4, 3, 1, 12, 35, 1);
        dueSegment(x, 1, 1, 0, 1, 0, 5, 3);
        dueSegment(x, 2, 1, 1, 0, 2, 10, 1);
        x.weight(20);
        dueSegment(x, 0, 4, 3, 1, 12, 50, 1);
        for (int what : new int[] {-1, 6, Integer.MIN_VALUE, Integer.MAX_VALUE}) {
            due("segment(0, " + what + ")", x.segment(0, what), NearPhrases.OUTSIDE);
            due("segment(3, " + what + ")", x.segment(3, what), NearPhrases.UNKNOWN);
        }
        for (int number : WRONG) {
            due("segment(" + number + ", 0)", x.segment(number, 0), NearPhrases.UNKNOWN);
        }
    }

    private static void segmentOfTheLongest() {
        NearPhrases x = Check.with("abcdefghijkl abcdefghijkl abcdefghijkl abcdefghi", "a b c d e f g hijklmnopqrs",
                "[1] [2] [3] [4] [5] [6] [7] [9]");
        dueSegment(x, 0, 4, 4, 0, 49, 40, 1);
        dueSegment(x, 1, 8, 8, 0, 27, 80, 1);
        dueSegment(x, 2, 8, 0, 8, 0, 40, 1);
    }

    private static void sign() {
        NearPhrases x = Check.with("az [9] abcdefghijkl [1]");
        int[][] want = {{2, 0, 'a', 'z', -1, -1, -1, -1, -1, -1, -1, -1, -1, -1},
            {0, 9, -1, -1, -1, -1, -1, -1, -1, -1, -1, -1, -1, -1},
            {12, 0, 'a', 'b', 'c', 'd', 'e', 'f', 'g', 'h', 'i', 'j', 'k', 'l'},
            {0, 1, -1, -1, -1, -1, -1, -1, -1, -1, -1, -1, -1, -1}};
        for (int sign = 0; sign < want.length; sign++) {
            for (int what = 0; what < 14; what++) {
                due("sign(0, " + sign + ", " + what + ")", x.sign(0, sign, what), want[sign][what]);
            }
        }
        x.drop(0);
        Check.keep(x, "b");
        due("a shorter word in the same place", x.sign(0, 0, 3), NearPhrases.NONE);
        due("its length", x.sign(0, 0, 0), 1);
        due("its digit", x.sign(0, 0, 1), 0);
    }

    private static void signRefusals() {
        NearPhrases x = Check.with("a b", "c");
        due("sign(2, 0, 0)", x.sign(2, 0, 0), NearPhrases.UNKNOWN);
        due("sign(1, 1, 0)", x.sign(1, 1, 0), NearPhrases.UNKNOWN);
        due("sign(1, 1, 14)", x.sign(1, 1, 14), NearPhrases.UNKNOWN);
        due("sign(2, 0, 14)", x.sign(2, 0, 14), NearPhrases.UNKNOWN);
        due("sign(1, 0, 14)", x.sign(1, 0, 14), NearPhrases.OUTSIDE);
        for (int number : WRONG) {
            due("sign(" + number + ", 0, 0)", x.sign(number, 0, 0), NearPhrases.UNKNOWN);
            due("sign(0, " + number + ", 0)", x.sign(0, number, 0), NearPhrases.UNKNOWN);
            due("sign(0, 0, " + number + ")", x.sign(0, 0, number), NearPhrases.OUTSIDE);
        }
    }

    private static void dueAlike(String one, String other, int want) {
        NearPhrases x = Check.with("zz " + one, other);
        due("alike of " + one + ", " + other, x.alike(0, 1, 1, 0), want);
        due("alike of " + other + ", " + one, x.alike(1, 0, 0, 1), want);
    }

    private static void alike() {
        dueAlike("a", "a", 0);
        dueAlike("a", "b", 10);
        dueAlike("cat", "cats", 3);
        dueAlike("cat", "cut", 4);
        dueAlike("cat", "at", 4);
        dueAlike("kitten", "sitting", 5);
        dueAlike("ab", "ba", 10);
        dueAlike("abc", "cab", 7);
        dueAlike("abcdefghijkl", "abcdefghijkl", 0);
        dueAlike("abcdefghijkl", "abcdefghijkx", 1);
        dueAlike("abcdefghijkl", "abcdefghijk", 1);
        dueAlike("abcdefghijkl", "a", 10);
        dueAlike("abcdefghijkl", "mnopqrstuvwx", 10);
        dueAlike("abcdefghijkl", "bcdefghijkla", 2);
        dueAlike("abcdefghij", "abcdefghix", 1);
        dueAlike("[1]", "a", NearPhrases.NONE);
        dueAlike("[1]", "[1]", NearPhrases.NONE);
    }

    private static void alikeRefusals() {
        NearPhrases x = Check.with("a [1]", "c");
        due("alike(0, 0, 0, 0)", x.alike(0, 0, 0, 0), 0);
        due("alike(0, 0, 0, 1)", x.alike(0, 0, 0, 1), NearPhrases.NONE);
        due("alike(0, 2, 1, 0)", x.alike(0, 2, 1, 0), NearPhrases.UNKNOWN);
        due("alike(0, 1, 1, 1)", x.alike(0, 1, 1, 1), NearPhrases.UNKNOWN);
        due("alike(2, 0, 1, 0)", x.alike(2, 0, 1, 0), NearPhrases.UNKNOWN);
        due("alike(0, 0, 2, 0)", x.alike(0, 0, 2, 0), NearPhrases.UNKNOWN);
        for (int number : WRONG) {
            due("alike with a " + number, x.alike(number, 0, 1, 0), NearPhrases.UNKNOWN);
            due("alike with i " + number, x.alike(0, number, 1, 0), NearPhrases.UNKNOWN);
            due("alike with b " + number, x.alike(0, 0, number, 0), NearPhrases.UNKNOWN);
            due("alike with j " + number, x.alike(0, 0, 1, number), NearPhrases.UNKNOWN);
        }
    }

    private static void two() {
        NearPhrases x = Check.with("the cat sat", "the cat sits", "a dog ran [1] home", "[1]", "the cat");
        dueTwo(x, 0, 0, 0, 60, 1000, 12, 3);
        dueTwo(x, 0, 1, 5, 60, 916, 9, 3);
        dueTwo(x, 1, 0, 5, 60, 916, 9, 3);
        dueTwo(x, 0, 2, 42, 75, 440, 1, 5);
        dueTwo(x, 2, 0, 42, 75, 440, 1, 5);
        dueTwo(x, 0, 3, 35, 35, 0, 0, 4);
        dueTwo(x, 0, 4, 10, 50, 800, 8, 3);
        dueTwo(x, 3, 3, 0, 10, 1000, 0, 1);
        due("ask", Check.ask(x, "no cat"), 2);
        dueTwo(x, 0, 1, 5, 60, 916, 9, 3);
        x.weight(1);
        dueTwo(x, 0, 3, 31, 31, 0, 0, 4);
        dueTwo(x, 0, 2, 38, 71, 464, 1, 5);
    }

    private static void twoOfTagsAndOrders() {
        NearPhrases x = Check.with("[1] [2]", "[2] [1]", "[3] [4]", "a [1]", "[1] a");
        dueTwo(x, 0, 1, 10, 20, 500, 0, 2);
        dueTwo(x, 0, 2, 10, 20, 500, 0, 2);
        dueTwo(x, 3, 4, 10, 30, 666, 2, 3);
        x.weight(20);
        dueTwo(x, 0, 1, 40, 80, 500, 0, 2);
        dueTwo(x, 3, 4, 20, 60, 666, 2, 3);
    }

    /** The cost is the same both ways, the steps need not be as many. */
    private static void twoBothWays() {
        NearPhrases x = Check.with("[1] a", "a [1] b");
        dueTwo(x, 0, 1, 20, 40, 500, 2, 4);
        dueTwo(x, 1, 0, 20, 40, 500, 2, 3);
    }

    private static void shared() {
        NearPhrases x = Check.with("aaaa", "aaa", "aa aa", "a [1] a", "ba ab", "abab");
        due("aaaa, aaa", x.two(0, 1, 3), 4);
        due("aaaa, aa aa", x.two(0, 2, 3), 4);
        due("aa aa, a [1] a", x.two(2, 3, 3), 4);
        due("aaaa, a [1] a", x.two(0, 3, 3), 2);
        due("ba ab, abab", x.two(4, 5, 3), 4);
        due("abab, ba ab", x.two(5, 4, 3), 4);
        due("abab, abab", x.two(5, 5, 3), 5);
    }

    /** 8000 by 27 leaves 8, 1000 by 3 leaves 1: the least rest rounds the quotient up, too. */
    private static void scoreIsRoundedUp() {
        NearPhrases x = Check.with("abcdefghij [1]", "abcdefghix", "abcdefghij");
        x.weight(7);
        dueTwo(x, 0, 1, 8, 27, 703, 9, 2);
        dueTwo(x, 0, 2, 7, 27, 740, 11, 2);
        NearPhrases y = Check.with("[1] [1] [1]", "[2] [2] [1] [1] [1] [1]");
        y.weight(1);
        dueTwo(y, 0, 1, 3, 9, 666, 0, 6);
        NearPhrases z = Check.with("[1]", "[1] [1]");
        z.weight(1);
        dueTwo(z, 0, 1, 1, 3, 666, 0, 2);
        dueTwo(z, 1, 0, 1, 3, 666, 0, 2);
    }

    /** What a longer one has left in the rows must not be seen any more. */
    private static void rowsUsedAgain() {
        NearPhrases x = Check.with("zzzzzzzzzzzz b [1] c d e f g", "abcdefghijkl [2]");
        due("the same of eight signs", Check.keep(x, "zzzzzzzzzzzz b [1] c d e f g"), 0);
        due("the same of twelve letters", Check.keep(x, "abcdefghijkl [2]"), 1);
        x.drop(0);
        x.drop(0);
        due("shorter, in used rows", Check.keep(x, "ab"), 0);
        due("shorter, in used rows, too", Check.keep(x, "zz"), 1);
        due("the same as the first", Check.keep(x, "ab"), 0);
        due("the same as the second", Check.keep(x, "zz"), 1);
        dueTwo(x, 0, 1, 10, 20, 500, 0, 1);
        due("count(7)", x.count(7), 6);
        x.drop(1);
        due("count(7) behind a drop", x.count(7), 3);
        x.drop(0);
        due("count(7) of none", x.count(7), 0);
        due("gram(zz) of none", x.gram('z', 'z'), 0);
    }

    private static void twoRefusals() {
        NearPhrases x = Check.with("a", "b");
        due("two(0, 2, 9)", x.two(0, 2, 9), NearPhrases.UNKNOWN);
        due("two(2, 0, 9)", x.two(2, 0, 9), NearPhrases.UNKNOWN);
        due("two(0, 1, 5)", x.two(0, 1, 5), NearPhrases.OUTSIDE);
        for (int number : WRONG) {
            due("two with a " + number, x.two(number, 0, 0), NearPhrases.UNKNOWN);
            due("two with b " + number, x.two(0, number, 0), NearPhrases.UNKNOWN);
            due("two with what " + number, x.two(0, 1, number), NearPhrases.OUTSIDE);
        }
    }

    private static void gram() {
        NearPhrases x = Check.with("aa aaa", "aab", "[1]", "z");
        due("gram(aa)", x.gram('a', 'a'), 2);
        due("gram(^a)", x.gram('^', 'a'), 2);
        due("gram(a$)", x.gram('a', '$'), 1);
        due("gram(b$)", x.gram('b', '$'), 1);
        due("gram(ab)", x.gram('a', 'b'), 1);
        due("gram(ba)", x.gram('b', 'a'), 0);
        due("gram(^z)", x.gram('^', 'z'), 1);
        due("gram(z$)", x.gram('z', '$'), 1);
        due("gram(zz)", x.gram('z', 'z'), 0);
        due("count(7)", x.count(7), 7);
        Check.keep(x, "aab");
        due("gram(aa) with the same told", x.gram('a', 'a'), 2);
        x.drop(0);
        due("gram(aa) behind a drop", x.gram('a', 'a'), 1);
        due("gram(a$) behind a drop", x.gram('a', '$'), 0);
        due("count(7) behind a drop", x.count(7), 6);
        Check.ask(x, "qq");
        due("gram(qq) of the question", x.gram('q', 'q'), 0);
        due("count(7) behind the question", x.count(7), 6);
    }

    private static void gramRefusals() {
        NearPhrases x = Check.with("a");
        due("gram(^$)", x.gram('^', '$'), NearPhrases.OUTSIDE);
        due("gram($a)", x.gram('$', 'a'), NearPhrases.OUTSIDE);
        due("gram(a^)", x.gram('a', '^'), NearPhrases.OUTSIDE);
        for (int code : new int[] {'`', '{', 'A', ' ', 0, -1, Integer.MIN_VALUE, Integer.MAX_VALUE}) {
            due("gram(" + code + ", a)", x.gram(code, 'a'), NearPhrases.OUTSIDE);
            due("gram(a, " + code + ")", x.gram('a', code), NearPhrases.OUTSIDE);
        }
    }
}
