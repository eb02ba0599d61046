import java.io.IOException;
import java.math.BigInteger;
import java.util.ArrayList;
import java.util.List;

/** What the document names as a boundary in the promises 20 and 21, a test for each sentence. */
public final class EdgesOfAllTest {
    private static final int[] EXTREMES = {-1, Integer.MIN_VALUE, Integer.MIN_VALUE + 1, Integer.MAX_VALUE};
    private static final Check CHECK = new Check("EdgesOfAllTest");

    public static void main(String[] args) throws IOException {
        Edges edges = new Edges(CHECK, args);
        ofCounts(edges);
        ofTheDigest(edges);
        edges.end();
    }

    private static void ofCounts(Edges edges) {
        edges.sentence("How many: 0 letters of THE PAGE", EdgesOfAllTest::lettersOfThePage);
        edges.sentence("1 SEGMENTS that are KEPT", EdgesOfAllTest::segmentsKept);
        edges.sentence("2 how often keep() was told one (those KEPT already, too; ever)", EdgesOfAllTest::toldEver);
        edges.sentence("3 how often one was dropped, ever", EdgesOfAllTest::droppedEver);
        edges.sentence("4 how often a QUESTION was asked", EdgesOfAllTest::askedEver);
        edges.sentence("5 WEIGHT, 6 BOUND", EdgesOfAllTest::weightAndBound);
        edges.sentence("7 how many GRAMS there are in some SEGMENT that is KEPT (each counts once).",
                EdgesOfAllTest::eachGramOnce);
        edges.sentence("(each counts once). OUTSIDE.", EdgesOfAllTest::countOutside);
    }

    private static void ofTheDigest(Edges edges) {
        edges.sentence("h is 1637, then for each of these numbers, in order, 31 times h, and it (as longs, wrapping)",
                EdgesOfAllTest::asLongsWrapping);
        edges.sentence("of each SEGMENT that is KEPT segment() for 0 to 5", EdgesOfAllTest::segmentsInTheDigest);
        edges.sentence("of each two (the one first, of a lesser number than the other one) two() for 0 to 4",
                EdgesOfAllTest::pairsInTheDigest);
        edges.sentence("if there is a QUESTION, question() for 0 to 9", EdgesOfAllTest::questionInTheDigest);
        edges.sentence("of each SEGMENT near() for 0 to 9, each SEGMENT by its RANK", EdgesOfAllTest::ranksInTheDigest);
        edges.sentence("each letter of THE PAGE by its code", EdgesOfAllTest::pageInTheDigest);
        edges.sentence("what count() tells for 0 to 7", EdgesOfAllTest::countsInTheDigest);
    }

    private static void due(String call, long got, long want) {
        CHECK.due(call, got, want);
    }

    // ---- count

    private static void lettersOfThePage() {
        NearPhrases x = new NearPhrases();
        due("count(0) of a new object", x.count(0), 0);
        for (int n = 1; n <= 48; n++) {
            x.letter(32 + n);
            due("count(0) of " + n, x.count(0), n);
        }
        x.letter(32);
        due("count(0) behind FULL", x.count(0), 48);
        x.blank();
        due("count(0) behind blank()", x.count(0), 0);
        x.letter(31);
        due("count(0) behind OUTSIDE", x.count(0), 0);
        Check.keep(x, "a");
        due("count(0) behind keep()", x.count(0), 0);
        Check.ask(x, "a");
        due("count(0) behind ask()", x.count(0), 0);
        Check.keep(x, "A");
        due("count(0) behind a refused keep()", x.count(0), 1);
        x.ask();
        due("count(0) behind a refused ask()", x.count(0), 1);
    }

    private static void segmentsKept() {
        NearPhrases x = new NearPhrases();
        due("count(1) of a new object", x.count(1), 0);
        Check.keep(x, "a");
        due("count(1) of one", x.count(1), 1);
        Check.keep(x, "a");
        due("count(1) of one told twice", x.count(1), 1);
        Check.ask(x, "b");
        due("count(1) behind ask()", x.count(1), 1);
        x.drop(0);
        due("count(1) behind drop()", x.count(1), 0);
        NearPhrases full = Check.withTwelve();
        due("count(1) of twelve", full.count(1), 12);
        Check.keep(full, "z");
        due("count(1) behind FULL", full.count(1), 12);
        full.drop(12);
        due("count(1) behind UNKNOWN", full.count(1), 12);
    }

    private static void toldEver() {
        NearPhrases x = Check.with("a", "a", "b");
        due("count(2)", x.count(2), 3);
        x.drop(0);
        x.drop(0);
        due("count(2) behind drops", x.count(2), 3);
        Check.keep(x, "a");
        due("count(2) behind another", x.count(2), 4);
        Check.keep(x, "");
        Check.keep(x, "A");
        due("count(2) behind STATE", x.count(2), 4);
        x.blank();
        Check.ask(x, "a");
        due("count(2) behind ask()", x.count(2), 4);
        NearPhrases full = Check.withTwelve();
        Check.keep(full, "z");
        due("count(2) behind FULL", full.count(2), 12);
        full.blank();
        Check.keep(full, "a");
        due("count(2) of one of twelve again", full.count(2), 13);
    }

    private static void droppedEver() {
        NearPhrases x = new NearPhrases();
        due("count(3) of a new object", x.count(3), 0);
        x.drop(0);
        due("count(3) behind UNKNOWN", x.count(3), 0);
        for (int n = 1; n <= 100; n++) {
            Check.keep(x, "a");
            x.drop(0);
        }
        due("count(3) behind a hundred", x.count(3), 100);
        due("count(2) beside it", x.count(2), 100);
        due("count(1) beside it", x.count(1), 0);
    }

    private static void askedEver() {
        NearPhrases x = new NearPhrases();
        due("count(4) of a new object", x.count(4), 0);
        Check.ask(x, "a");
        Check.ask(x, "a");
        Check.ask(x, "b");
        due("count(4), the same ones too", x.count(4), 3);
        x.ask();
        due("count(4) behind STATE", x.count(4), 3);
        Check.keep(x, "c");
        due("count(4) behind keep()", x.count(4), 3);
    }

    private static void weightAndBound() {
        NearPhrases x = new NearPhrases();
        due("count(5) at first", x.count(5), 5);
        due("count(6) at first", x.count(6), 700);
        x.weight(20);
        x.bound(1000);
        due("count(5) at most", x.count(5), 20);
        due("count(6) at most", x.count(6), 1000);
        x.weight(21);
        x.bound(1001);
        due("count(5) behind OUTSIDE", x.count(5), 20);
        due("count(6) behind OUTSIDE", x.count(6), 1000);
        x.weight(1);
        x.bound(0);
        due("count(5) at least", x.count(5), 1);
        due("count(6) at least", x.count(6), 0);
    }

    private static void eachGramOnce() {
        NearPhrases x = new NearPhrases();
        due("count(7) of a new object", x.count(7), 0);
        Check.keep(x, "[1]");
        due("count(7) of a tag", x.count(7), 0);
        Check.keep(x, "aaaa a");
        due("count(7) of ^a, aa, a$", x.count(7), 3);
        Check.keep(x, "aa");
        due("count(7), no other one", x.count(7), 3);
        Check.ask(x, "xyz");
        due("count(7) behind ask()", x.count(7), 3);
        x.drop(1);
        due("count(7), still in some", x.count(7), 3);
        x.drop(1);
        due("count(7), in none", x.count(7), 0);
        Check.keep(x, "az za");
        due("count(7) of ^a, az, z$, ^z, za, a$", x.count(7), 6);
        gramsInRowsUsedAgain();
        NearPhrases full = Check.withTwelve();
        due("count(7) of twelve", full.count(7), 24);
        Check.keep(full, "xyz");
        due("count(7) behind FULL", full.count(7), 24);
    }

    /** A segment of few grams comes where one of many stood: those of the old one count for nothing. */
    private static void gramsInRowsUsedAgain() {
        NearPhrases x = Check.with("mnop");
        x.drop(0);
        Check.keep(x, "a");
        due("count(7) of few behind many", x.count(7), 2);
        Check.keep(x, "opm");
        due("count(7) of both", x.count(7), 6);
        x.drop(0);
        due("count(7) of the second", x.count(7), 4);
        for (int code = 'm'; code <= 'p'; code++) {
            due("gram(^, " + code + ")", x.gram('^', code), code == 'o' ? 1 : 0);
            due("gram(" + code + ", $)", x.gram(code, '$'), code == 'm' ? 1 : 0);
        }
        due("gram(op)", x.gram('o', 'p'), 1);
        due("gram(pm)", x.gram('p', 'm'), 1);
        due("gram(mn)", x.gram('m', 'n'), 0);
        due("gram(no)", x.gram('n', 'o'), 0);
    }

    private static void countOutside() {
        NearPhrases x = Check.with("a");
        due("count(7)", x.count(7), 2);
        due("count(8)", x.count(8), NearPhrases.OUTSIDE);
        due("count(9)", x.count(9), NearPhrases.OUTSIDE);
        for (int what : EXTREMES) {
            due("count(" + what + ")", x.count(what), NearPhrases.OUTSIDE);
        }
    }

    // ---- digest

    private static void dueDigest(String of, NearPhrases x, int... want) {
        due("digest() of " + of, x.digest(), Check.foldOf(want));
        due("digest() of " + of + " again", x.digest(), Check.foldOf(want));
    }

    private static void add(List<Long> numbers, int... more) {
        for (int number : more) {
            numbers.add((long) number);
        }
    }

    /** Over numbers without an end, of which the last 64 bits are what is left of a long that wraps. */
    private static long wrapped(List<Long> numbers) {
        BigInteger h = BigInteger.valueOf(1637);
        for (long number : numbers) {
            h = h.multiply(BigInteger.valueOf(31)).add(BigInteger.valueOf(number));
        }
        return h.longValue();
    }

    /** Twelve kept, all of them matches, and a full page: as many numbers as there can be. */
    private static void asLongsWrapping() {
        NearPhrases x = Check.withTwelve();
        x.bound(500);
        Check.ask(x, "l");
        List<Long> numbers = new ArrayList<>();
        for (int i = 0; i < 12; i++) {
            add(numbers, 1, 1, 0, 2, 10, 1);
        }
        for (int pair = 0; pair < 66; pair++) {
            add(numbers, 10, 20, 500, 0, 1);
        }
        add(numbers, 1, 1, 0, 2, 10, 12, 12, 12, 12, 1);
        for (int i = 0; i < 11; i++) {
            add(numbers, 10, 20, 500, 0, 1, 10, 1, 1, 1, 0);
        }
        add(numbers, 0, 20, 1000, 2, 1, 10, 1, 1, 1, 0);
        add(numbers, 11, 0, 1, 2, 3, 4, 5, 6, 7, 8, 9, 10);
        for (int n = 0; n < 48; n++) {
            x.letter(126 - n);
            add(numbers, 126 - n);
        }
        add(numbers, 48, 12, 12, 0, 1, 5, 500, 24);
        due("digest() of all that there can be", x.digest(), wrapped(numbers));
        List<Long> few = new ArrayList<>();
        add(few, 0, 0, 0, 0, 0, 5, 700, 0);
        due("digest() of a new object", new NearPhrases().digest(), wrapped(few));
    }

    private static void segmentsInTheDigest() {
        dueDigest("nothing", new NearPhrases(), 0, 0, 0, 0, 0, 5, 700, 0);
        NearPhrases x = Check.with("a [1]", "a [1]");
        dueDigest("one", x, 2, 1, 1, 2, 15, 2, 0, 1, 2, 0, 0, 5, 700, 2);
        x.weight(20);
        dueDigest("one at weight 20", x, 2, 1, 1, 2, 30, 2, 0, 1, 2, 0, 0, 20, 700, 2);
        x.drop(0);
        dueDigest("none any more", x, 0, 0, 2, 1, 0, 20, 700, 0);
    }

    /** From "[1] a" to "a [1] b" there are four steps, back there are three. */
    private static void pairsInTheDigest() {
        dueDigest("a pair", Check.with("[1] a", "a [1] b"), 2, 1, 1, 2, 15, 1, 3, 2, 1, 4, 25, 1, 20, 40, 500, 2, 4,
                0, 2, 2, 0, 0, 5, 700, 4);
        dueDigest("the pair turned", Check.with("a [1] b", "[1] a"), 3, 2, 1, 4, 25, 1, 2, 1, 1, 2, 15, 1,
                20, 40, 500, 2, 3, 0, 2, 2, 0, 0, 5, 700, 4);
        dueDigest("three", Check.with("a", "[1]", "aa"), 1, 1, 0, 2, 10, 1, 1, 0, 1, 0, 5, 1, 1, 1, 0, 3, 10, 1,
                15, 15, 0, 0, 2, 5, 20, 750, 2, 1, 15, 15, 0, 0, 2, 0, 3, 3, 0, 0, 5, 700, 3);
    }

    private static void questionInTheDigest() {
        NearPhrases x = new NearPhrases();
        dueDigest("no question", x, 0, 0, 0, 0, 0, 5, 700, 0);
        Check.ask(x, "A");
        dueDigest("a refused question", x, 'A', 1, 0, 0, 0, 0, 5, 700, 0);
        x.blank();
        Check.ask(x, "ab [1]");
        dueDigest("a question, nothing kept", x, 2, 1, 1, 3, 15, 0, 0, 0, 0, 0, 0, 0, 0, 0, 1, 5, 700, 0);
    }

    /** "b" and "a" are asked for "a": no rank for what is no match, then the second first. */
    private static void ranksInTheDigest() {
        NearPhrases x = Check.asking("a", "b", "a");
        x.bound(1000);
        dueDigest("one match", x, 1, 1, 0, 2, 10, 1, 1, 1, 0, 2, 10, 1, 10, 20, 500, 0, 1,
                1, 1, 0, 2, 10, 1, 2, 1, 1, 1,
                10, 20, 500, 0, 1, 0, 1, 0, 0, 0, 0, 20, 1000, 2, 1, 0, 1, 1, 1, 0, 1, 0, 2, 2, 0, 1, 5, 1000, 4);
        x.bound(500);
        dueDigest("two matches", x, 1, 1, 0, 2, 10, 1, 1, 1, 0, 2, 10, 1, 10, 20, 500, 0, 1,
                1, 1, 0, 2, 10, 2, 2, 2, 2, 1,
                10, 20, 500, 0, 1, 10, 1, 1, 1, 0, 0, 20, 1000, 2, 1, 10, 1, 1, 1, 0, 1, 0, 0, 2, 2, 0, 1, 5, 500, 4);
        x.drop(1);
        x.bound(501);
        dueDigest("no match", x, 1, 1, 0, 2, 10, 1, 1, 1, 0, 2, 10, 0, 1, 1, 1, 0, 10, 20, 500, 0, 1, 9, 1, 1, 0, 0,
                0, 1, 2, 1, 1, 5, 501, 2);
    }

    private static void pageInTheDigest() {
        NearPhrases x = new NearPhrases();
        x.letter(32);
        x.letter(126);
        dueDigest("a page of two", x, 32, 126, 2, 0, 0, 0, 0, 5, 700, 0);
        x.blank();
        dueDigest("an empty page", x, 0, 0, 0, 0, 0, 5, 700, 0);
        int[] numbers = new int[56];
        for (int n = 0; n < 48; n++) {
            x.letter(40 + n);
            numbers[n] = 40 + n;
        }
        numbers[48] = 48;
        numbers[53] = 5;
        numbers[54] = 700;
        dueDigest("a full page", x, numbers);
    }

    private static void countsInTheDigest() {
        NearPhrases x = Check.with("a", "a");
        x.drop(0);
        x.weight(20);
        x.bound(0);
        dueDigest("counts alone", x, 0, 0, 2, 1, 0, 20, 0, 0);
        x.weight(1);
        x.bound(1000);
        dueDigest("counts alone, then", x, 0, 0, 2, 1, 0, 1, 1000, 0);
    }
}
