/** Promises 15 to 19: what is told of the question and of what is near it. */
public final class QuestionTest {
    private static final int[] WRONG = {-1, Integer.MIN_VALUE, Integer.MAX_VALUE};
    private static final Check CHECK = new Check("QuestionTest");

    public static void main(String[] args) {
        near();
        nearFollowsChanges();
        nearWhenFull();
        tagStepsAtTheLeastWeight();
        matchAtTheBound();
        canByLengthsAtTheEdge();
        canByGramsAtTheEdge();
        nearRefusals();
        step();
        stepsOfSeveralRows();
        stepRefusals();
        rank();
        rankRefusals();
        question();
        questionRefusals();
        covered();
        coveredRefusals();
        CHECK.end();
    }

    private static void due(String call, long got, long want) {
        CHECK.due(call, got, want);
    }

    private static void dueNear(NearPhrases x, int segment, int... want) {
        for (int what = 0; what < want.length; what++) {
            due("near(" + segment + ", " + what + ")", x.near(segment, what), want[what]);
        }
    }

    private static void dueQuestion(NearPhrases x, int... want) {
        for (int what = 0; what < want.length; what++) {
            due("question(" + what + ")", x.question(what), want[what]);
        }
    }

    private static void near() {
        NearPhrases x = Check.with("the cat sat", "the cat sits", "a dog ran [1] home");
        Check.ask(x, "the cats sat");
        dueNear(x, 0, 3, 60, 950, 11, 3, 18, 1, 1, 1, 0);
        dueNear(x, 1, 8, 60, 866, 11, 3, 18, 1, 1, 1, 0);
        dueNear(x, 2, 42, 75, 440, 1, 5, 22, 1, 1, 0, 1);
    }

    private static void nearFollowsChanges() {
        NearPhrases x = Check.with("a [1]", "b");
        Check.ask(x, "a [2]");
        dueNear(x, 0, 5, 30, 833, 2, 2, 9, 1, 1, 1, 1);
        x.weight(20);
        dueNear(x, 0, 20, 60, 666, 2, 2, 18, 1, 1, 0, 1);
        x.bound(666);
        dueNear(x, 0, 20, 60, 666, 2, 2, 20, 1, 1, 1, 1);
        Check.ask(x, "a");
        dueNear(x, 0, 20, 40, 500, 2, 2, 13, 0, 1, 0, 1);
        x.drop(0);
        dueNear(x, 0, 10, 20, 500, 0, 1, 6, 1, 1, 0, 0);
        Check.keep(x, "a");
        dueNear(x, 1, 0, 20, 1000, 2, 1, 6, 1, 1, 1, 0);
    }

    private static void nearWhenFull() {
        NearPhrases x = new NearPhrases();
        for (int i = 0; i < 12; i++) {
            Check.keep(x, "" + (char) ('a' + i));
        }
        Check.ask(x, "l");
        dueNear(x, 10, 10, 20, 500, 0, 1, 6, 1, 1, 0, 0);
        dueNear(x, 11, 0, 20, 1000, 2, 1, 6, 1, 1, 1, 0);
        dueRanks(x, 11);
        x.bound(0);
        dueRanks(x, 11, 0, 1, 2, 3, 4, 5, 6, 7, 8, 9, 10);
        dueQuestion(x, 1, 1, 0, 2, 10, 12, 12, 12, 12, 1);
    }

    private static void tagStepsAtTheLeastWeight() {
        NearPhrases x = Check.with("[1] [2] a", "a [3]");
        x.weight(1);
        Check.ask(x, "[1] [3] a");
        dueNear(x, 0, 1, 24, 958, 2, 3, 7, 1, 1, 1, 1);
        dueNear(x, 1, 3, 23, 869, 2, 4, 6, 1, 1, 1, 3);
    }

    private static void matchAtTheBound() {
        NearPhrases x = Check.with("the cat sat");
        Check.ask(x, "the cats sat");
        x.bound(950);
        due("match at its score", x.near(0, 8), 1);
        due("room there", x.near(0, 5), 3);
        x.bound(951);
        due("match above its score", x.near(0, 8), 0);
        due("room there", x.near(0, 5), 2);
        x.bound(1000);
        Check.ask(x, "the cat sat");
        dueNear(x, 0, 0, 60, 1000, 12, 3, 0, 1, 1, 1, 0);
        x.bound(0);
        Check.ask(x, "[1]");
        dueNear(x, 0, 35, 35, 0, 0, 4, 35, 1, 1, 1, 1);
    }

    /** "a b [1]" and "c": one word and one tag more cost 15, all is 35. */
    private static void canByLengthsAtTheEdge() {
        NearPhrases x = Check.with("a b [1]");
        Check.ask(x, "c");
        x.bound(571);
        due("room 15", x.near(0, 5), 15);
        due("lengths at room 15", x.near(0, 6), 1);
        x.bound(572);
        due("room 14", x.near(0, 5), 14);
        due("lengths at room 14", x.near(0, 6), 0);
        NearPhrases y = Check.with("c [1]");
        Check.ask(y, "a b");
        y.bound(571);
        due("one has more words, one more tags", y.near(0, 6), 1);
        y.bound(572);
        due("one has more words, one more tags, less room", y.near(0, 6), 0);
    }

    /** Twelve unlike grams need 60, so a room of 5; "abcdefghijk" has twelve. */
    private static void canByGramsAtTheEdge() {
        NearPhrases x = Check.with("abcdefghijk");
        Check.ask(x, "z");
        x.bound(750);
        due("room 5", x.near(0, 5), 5);
        due("shared", x.near(0, 3), 0);
        due("grams at room 5", x.near(0, 7), 1);
        x.bound(751);
        due("room 4", x.near(0, 5), 4);
        due("grams at room 4", x.near(0, 7), 0);
        Check.ask(x, "abcdefghijk");
        due("grams of the same", x.near(0, 7), 1);
        NearPhrases y = Check.with("z");
        Check.ask(y, "abcdefghijk");
        y.bound(750);
        due("the question has more, room 5", y.near(0, 7), 1);
        y.bound(751);
        due("the question has more, room 4", y.near(0, 7), 0);
    }

    private static void nearRefusals() {
        NearPhrases x = Check.with("a");
        due("near(1, 10), no question", x.near(1, 10), NearPhrases.UNKNOWN);
        due("near(0, 10), no question", x.near(0, 10), NearPhrases.OUTSIDE);
        due("near(0, 9), no question", x.near(0, 9), NearPhrases.STATE);
        Check.ask(x, "a");
        due("near(1, 0)", x.near(1, 0), NearPhrases.UNKNOWN);
        due("near(0, 10)", x.near(0, 10), NearPhrases.OUTSIDE);
        for (int number : WRONG) {
            due("near with segment " + number, x.near(number, 0), NearPhrases.UNKNOWN);
            due("near with what " + number, x.near(0, number), NearPhrases.OUTSIDE);
        }
    }

    private static void dueStep(NearPhrases x, int segment, int step, int... want) {
        for (int what = 0; what < want.length; what++) {
            due("step(" + segment + ", " + step + ", " + what + ")", x.step(segment, step, what), want[what]);
        }
    }

    private static void step() {
        NearPhrases x = Check.with("the [1] cat", "dog");
        Check.ask(x, "the cats [2] dog");
        dueStep(x, 0, 0, 0, 0, 0, 0);
        dueStep(x, 0, 1, 1, 5, 1, -1);
        dueStep(x, 0, 2, 0, 3, 2, 1);
        dueStep(x, 0, 3, 2, 5, -1, 2);
        dueStep(x, 0, 4, 2, 10, -1, 3);
        due("steps of 0", x.near(0, 4), 5);
        due("steps of tags of 0", x.near(0, 9), 2);
        dueStep(x, 1, 0, 2, 10, -1, 0);
        dueStep(x, 1, 1, 2, 10, -1, 1);
        dueStep(x, 1, 2, 2, 5, -1, 2);
        dueStep(x, 1, 3, 0, 0, 0, 3);
    }

    private static void dueKinds(String segment, String question, int weight, String want) {
        NearPhrases x = Check.with(segment);
        x.weight(weight);
        Check.ask(x, question);
        String got = Check.kinds(x, 0);
        CHECK.holds("steps from \"" + segment + "\" to \"" + question + "\" are " + want + ", not " + got,
                got.equals(want));
    }

    private static void stepsOfSeveralRows() {
        dueKinds("ab xy", "zz", 5, "01");
        dueKinds("zz", "ab xy", 5, "02");
        dueKinds("a [1]", "[1] a", 5, "201");
        dueKinds("a [1]", "[1] a", 10, "102");
        dueKinds("a [1]", "[1] a", 20, "102");
        dueKinds("a", "[1]", 5, "12");
        dueKinds("[1]", "a", 5, "12");
        dueKinds("[1] a", "a [1] b", 5, "1022");
        dueKinds("a [1] b", "[1] a", 5, "100");
        dueKinds("[1] [2]", "[2]", 5, "10");
        dueKinds("[1] [3]", "[2]", 5, "01");
        dueKinds("a b c d e f g h", "[1] [2] [3] [4] [5] [6] [7] [8]", 20, "1111111122222222");
    }

    private static void stepRefusals() {
        NearPhrases x = Check.with("a b");
        due("step(1, 0, 4), no question", x.step(1, 0, 4), NearPhrases.UNKNOWN);
        due("step(0, 9, 4), no question", x.step(0, 9, 4), NearPhrases.OUTSIDE);
        due("step(0, 9, 0), no question", x.step(0, 9, 0), NearPhrases.STATE);
        Check.ask(x, "a");
        due("step(0, 2, 0)", x.step(0, 2, 0), NearPhrases.UNKNOWN);
        due("step(0, 2, 4)", x.step(0, 2, 4), NearPhrases.OUTSIDE);
        due("step(1, 0, 0)", x.step(1, 0, 0), NearPhrases.UNKNOWN);
        for (int number : WRONG) {
            due("step with segment " + number, x.step(number, 0, 0), NearPhrases.UNKNOWN);
            due("step with step " + number, x.step(0, number, 0), NearPhrases.UNKNOWN);
            due("step with what " + number, x.step(0, 0, number), NearPhrases.OUTSIDE);
        }
    }

    private static void dueRanks(NearPhrases x, int... want) {
        for (int r = 0; r < want.length; r++) {
            due("rank(" + r + ")", x.rank(r), want[r]);
        }
        due("rank behind the last", x.rank(want.length), NearPhrases.UNKNOWN);
    }

    /** Numbers 2 and 3 have the score of 1, but with no step of tags; 4 is the same as asked. */
    private static void rank() {
        NearPhrases x = Check.with("zz", "ab c [2]", "ab d [1]", "ab e [1]", "ab c [1]");
        x.weight(10);
        Check.ask(x, "ab c [1]");
        dueRanks(x, 4, 2, 3, 1);
        x.bound(1000);
        dueRanks(x, 4);
        x.bound(0);
        dueRanks(x, 4, 2, 3, 1, 0);
        x.drop(4);
        dueRanks(x, 2, 3, 1, 0);
        x.drop(0);
        dueRanks(x, 1, 2, 0);
        x.bound(900);
        dueRanks(x);
        Check.keep(x, "ab c [1]");
        dueRanks(x, 3);
    }

    private static void rankRefusals() {
        NearPhrases x = Check.with("a");
        due("rank(0), no question", x.rank(0), NearPhrases.STATE);
        due("rank(-1), no question", x.rank(-1), NearPhrases.STATE);
        Check.ask(x, "a");
        for (int number : WRONG) {
            due("rank(" + number + ")", x.rank(number), NearPhrases.UNKNOWN);
        }
    }

    private static void question() {
        NearPhrases x = Check.with("open [1] file [2]", "open [2] file [1]", "open file [1]", "abcdefghijk", "[1] [2]",
                "abcdefg [1] hijklmn [2]");
        Check.ask(x, "open [1] file [1]");
        dueQuestion(x, 4, 2, 2, 10, 30, 3, 4, 6, 4, 4);
        x.bound(500);
        dueQuestion(x, 4, 2, 2, 10, 30, 4, 6, 6, 6, 4);
        x.bound(900);
        dueQuestion(x, 4, 2, 2, 10, 30, 3, 4, 3, 3, 4);
        x.bound(1000);
        dueQuestion(x, 4, 2, 2, 10, 30, 0, 3, 3, 2, 0);
        x.weight(20);
        dueQuestion(x, 4, 2, 2, 10, 60, 0, 3, 3, 2, 0);
    }

    private static void questionRefusals() {
        NearPhrases x = Check.with("a");
        due("question(10), none", x.question(10), NearPhrases.OUTSIDE);
        due("question(9), none", x.question(9), NearPhrases.STATE);
        for (int number : WRONG) {
            due("question(" + number + "), none", x.question(number), NearPhrases.OUTSIDE);
        }
        Check.ask(x, "a");
        due("question(10)", x.question(10), NearPhrases.OUTSIDE);
        due("question(0)", x.question(0), 1);
        NearPhrases y = new NearPhrases();
        Check.ask(y, "a [1]");
        dueQuestion(y, 2, 1, 1, 2, 15, 0, 0, 0, 0, 0);
    }

    private static void dueCovered(NearPhrases x, int... want) {
        int sum = 0;
        for (int sign = 0; sign < want.length; sign++) {
            due("covered(" + sign + ")", x.covered(sign), want[sign]);
            sum += want[sign];
        }
        due("covered behind the last", x.covered(want.length), NearPhrases.UNKNOWN);
        due("question(9)", x.question(9), sum);
    }

    private static void covered() {
        NearPhrases x = Check.with("the cats sat [2]", "a cat sat [1]", "on mat");
        Check.ask(x, "the cat sat [1] mat");
        x.bound(600);
        dueCovered(x, 1, 1, 1, 1, 0);
        x.bound(300);
        dueCovered(x, 1, 1, 1, 1, 1);
        x.drop(1);
        dueCovered(x, 1, 0, 1, 0, 1);
        x.bound(1000);
        dueCovered(x, 0, 0, 0, 0, 0);
        Check.ask(x, "mat");
        x.bound(500);
        dueCovered(x, 1);
    }

    private static void coveredRefusals() {
        NearPhrases x = Check.with("a");
        due("covered(0), no question", x.covered(0), NearPhrases.STATE);
        due("covered(-1), no question", x.covered(-1), NearPhrases.STATE);
        Check.ask(x, "a");
        for (int number : WRONG) {
            due("covered(" + number + ")", x.covered(number), NearPhrases.UNKNOWN);
        }
    }
}
