import java.io.IOException;

/** What the document names as a boundary in the promises 15 to 19, a test for each sentence. */
public final class EdgesOfQuestionTest {
    private static final int[] EXTREMES = {-1, Integer.MIN_VALUE, Integer.MIN_VALUE + 1, Integer.MAX_VALUE};
    private static final String EIGHT_WORDS = "a b c d e f g h";
    private static final String EIGHT_TAGS = "[1] [2] [3] [4] [5] [6] [7] [9]";
    private static final Check CHECK = new Check("EdgesOfQuestionTest");

    public static void main(String[] args) throws IOException {
        Edges edges = new Edges(CHECK, args);
        ofNear(edges);
        ofSteps(edges);
        ofRanks(edges);
        ofTheQuestion(edges);
        edges.end();
    }

    private static void ofNear(Edges edges) {
        edges.sentence("Of a SEGMENT that is KEPT, and THE QUESTION: what = 0 FAR, 1 ALL, 2 SCORE, 3 SHARED, 4 "
                + "how many STEPS, 5 ROOM",
                EdgesOfQuestionTest::leastAndMostOfNear);
        edges.sentence("6 whether it can be a MATCH by LENGTHS, 7 by GRAMS, 8 whether it is one (each 1, 0)",
                EdgesOfQuestionTest::eachOneOrNothing);
        edges.sentence("9 how many STEPS of TAGS cost something.", EdgesOfQuestionTest::stepsOfTags);
        edges.sentence("cost something. UNKNOWN; OUTSIDE; STATE: there is no QUESTION.",
                EdgesOfQuestionTest::nearUnknown);
        edges.sentence("UNKNOWN; OUTSIDE; STATE: there is no QUESTION.", EdgesOfQuestionTest::nearOutside);
        edges.sentence("OUTSIDE; STATE: there is no QUESTION.", EdgesOfQuestionTest::nearWithNoQuestion);
    }

    private static void ofSteps(Edges edges) {
        edges.sentence("Of a STEP (from 0) of THE STEPS: what = 0 which (0 to 2), 1 its cost",
                EdgesOfQuestionTest::firstAndLastStep);
        edges.sentence("2 the SIGN of the SEGMENT (NONE: IN)", EdgesOfQuestionTest::noSignOfTheSegment);
        edges.sentence("3 that of THE QUESTION (NONE: OUT)", EdgesOfQuestionTest::noSignOfTheQuestion);
        edges.sentence("(NONE: OUT). UNKNOWN: segment; OUTSIDE: what", EdgesOfQuestionTest::stepOfUnknownSegment);
        edges.sentence("UNKNOWN: segment; OUTSIDE: what; STATE: there is no QUESTION",
                EdgesOfQuestionTest::stepOutside);
        edges.sentence("OUTSIDE: what; STATE: there is no QUESTION; UNKNOWN: step.",
                EdgesOfQuestionTest::stepWithNoQuestion);
        edges.sentence("UNKNOWN: step.", EdgesOfQuestionTest::unknownStep);
    }

    private static void ofRanks(Edges edges) {
        edges.sentence("The SEGMENT of a RANK (from 0).", EdgesOfQuestionTest::firstAndLastRank);
        edges.sentence("STATE: there is no QUESTION; UNKNOWN: rank.", EdgesOfQuestionTest::rankWithNoQuestion);
        edges.sentence("UNKNOWN: rank.", EdgesOfQuestionTest::unknownRank);
    }

    private static void ofTheQuestion(Edges edges) {
        edges.sentence("Of THE QUESTION: what = 0 how many SIGNS, 1 WORDS, 2 TAGS, 3 GRAMS it has, 4 what all its "
                + "SIGNS cost",
                EdgesOfQuestionTest::leastAndMostOfTheQuestion);
        edges.sentence("5 how many MATCHES there are, 6 how many can be one by LENGTHS, 7 by GRAMS, 8 by both",
                EdgesOfQuestionTest::noneAndAllOfThem);
        edges.sentence("9 how many of its SIGNS are COVERED", EdgesOfQuestionTest::noneAndAllCovered);
        edges.sentence("STATE: there is none; OUTSIDE (ahead of that).", EdgesOfQuestionTest::questionWithNone);
        edges.sentence("OUTSIDE (ahead of that)", EdgesOfQuestionTest::questionOutside);
        edges.sentence("Whether a SIGN of THE QUESTION is COVERED (1, 0).", EdgesOfQuestionTest::firstAndLastSign);
        edges.sentence("STATE: there is none; UNKNOWN: sign.", EdgesOfQuestionTest::coveredWithNoQuestion);
        edges.sentence("UNKNOWN: sign.", EdgesOfQuestionTest::coveredUnknown);
    }

    private static void due(String call, long got, long want) {
        CHECK.due(call, got, want);
    }

    private static void dueNear(NearPhrases x, int segment, int... want) {
        for (int what = 0; what < want.length; what++) {
            due("near(" + segment + ", " + what + ")", x.near(segment, what), want[what]);
        }
    }

    // ---- near

    private static void leastAndMostOfNear() {
        NearPhrases x = Check.asking(EIGHT_TAGS, EIGHT_WORDS, EIGHT_TAGS, "[1]");
        x.weight(20);
        x.bound(0);
        dueNear(x, 0, 240, 240, 0, 0, 16, 240);
        dueNear(x, 1, 0, 320, 1000, 0, 8, 320);
        dueNear(x, 2, 140, 180, 222, 0, 8, 180);
        x.bound(1000);
        dueNear(x, 0, 240, 240, 0, 0, 16, 0);
        x.weight(1);
        Check.ask(x, "[1]");
        dueNear(x, 2, 0, 2, 1000, 0, 1, 0);
        dueNear(x, 1, 7, 9, 222, 0, 8, 0);
        NearPhrases full = Check.withTwelve();
        Check.ask(full, "l");
        dueNear(full, 0, 10, 20, 500, 0, 1, 6);
        dueNear(full, 11, 0, 20, 1000, 2, 1, 6);
    }

    /** By lengths alone, by grams alone, by both and yet no match, a match, by none of them. */
    private static NearPhrases fiveKinds() {
        return Check.asking("abcdefghijkl b", "zzzzzzzzzzzz b", "abcdefghijkl b [1]", "b abcdefghijkl",
                "abcdefghijkx b", "z [1]");
    }

    private static void eachOneOrNothing() {
        NearPhrases x = fiveKinds();
        x.bound(900);
        int[][] due = {{1, 0, 0}, {0, 1, 0}, {1, 1, 0}, {1, 1, 1}, {0, 0, 0}};
        for (int segment = 0; segment < due.length; segment++) {
            for (int k = 0; k < 3; k++) {
                due("near(" + segment + ", " + (6 + k) + ")", x.near(segment, 6 + k), due[segment][k]);
            }
        }
        x.bound(0);
        for (int segment = 0; segment < due.length; segment++) {
            for (int what = 6; what <= 8; what++) {
                due("near(" + segment + ", " + what + ") at bound 0", x.near(segment, what), 1);
            }
        }
    }

    /** OUT, IN and BOTH of unlike tags count, BOTH of like ones and what is done to words do not. */
    private static void stepsOfTags() {
        dueStepsOfTags("a b", "c", 5, 0);
        dueStepsOfTags("[1]", "[1]", 5, 0);
        dueStepsOfTags("[1]", "[2]", 1, 1);
        dueStepsOfTags("[1]", "[2]", 20, 1);
        dueStepsOfTags("a [1]", "a", 5, 1);
        dueStepsOfTags("a", "a [1]", 5, 1);
        dueStepsOfTags("a", "[1]", 5, 1);
        dueStepsOfTags(EIGHT_TAGS, EIGHT_WORDS, 1, 8);
        dueStepsOfTags(EIGHT_WORDS, EIGHT_TAGS, 1, 8);
        dueStepsOfTags(EIGHT_TAGS, EIGHT_TAGS, 1, 0);
        dueStepsOfTags("[1] [2] [3] [4] [5] [6] [7] [8]", "[8] [7] [6] [5] [4] [3] [2] [1]", 1, 8);
        dueStepsOfTags("[1] [1] a", "[2] b [2]", 5, 3);
        NearPhrases x = Check.asking(EIGHT_WORDS, EIGHT_TAGS);
        due("near(0, 9) of eight words", x.near(0, 9), 8);
        Check.ask(x, "[1]");
        due("near(0, 9) of one tag", x.near(0, 9), 7);
        Check.ask(x, EIGHT_TAGS);
        due("near(0, 9) of the same", x.near(0, 9), 0);
    }

    private static void dueStepsOfTags(String segment, String question, int weight, int want) {
        NearPhrases x = Check.asking(question, segment);
        x.weight(weight);
        due("near(0, 9) of \"" + segment + "\", \"" + question + "\"", x.near(0, 9), want);
    }

    private static void nearUnknown() {
        NearPhrases none = Check.asking("a");
        due("near(0, 0) of nothing", none.near(0, 0), NearPhrases.UNKNOWN);
        NearPhrases x = Check.withTwelve();
        due("near(12, 10), no question", x.near(12, 10), NearPhrases.UNKNOWN);
        Check.ask(x, "a");
        due("near(12, 0)", x.near(12, 0), NearPhrases.UNKNOWN);
        due("near(11, 0)", x.near(11, 0), 10);
        for (int number : EXTREMES) {
            due("near(" + number + ", 0)", x.near(number, 0), NearPhrases.UNKNOWN);
            due("near(" + number + ", " + number + ")", x.near(number, number), NearPhrases.UNKNOWN);
        }
        x.drop(5);
        due("near(11, 0) behind a drop", x.near(11, 0), NearPhrases.UNKNOWN);
        due("near(11, 10) behind a drop", x.near(11, 10), NearPhrases.UNKNOWN);
    }

    private static void nearOutside() {
        NearPhrases x = Check.with("a");
        due("near(0, 10), no question", x.near(0, 10), NearPhrases.OUTSIDE);
        due("near(0, -1), no question", x.near(0, -1), NearPhrases.OUTSIDE);
        Check.ask(x, "a");
        due("near(0, 10)", x.near(0, 10), NearPhrases.OUTSIDE);
        for (int what : EXTREMES) {
            due("near(0, " + what + ")", x.near(0, what), NearPhrases.OUTSIDE);
        }
        due("near(0, 9)", x.near(0, 9), 0);
    }

    private static void nearWithNoQuestion() {
        NearPhrases x = Check.with("a");
        for (int what = 0; what <= 9; what++) {
            due("near(0, " + what + ")", x.near(0, what), NearPhrases.STATE);
        }
        Check.ask(x, "A");
        due("near(0, 0) behind a refused question", x.near(0, 0), NearPhrases.STATE);
    }

    // ---- step

    private static void dueStep(NearPhrases x, int segment, int step, int... want) {
        for (int what = 0; what < want.length; what++) {
            due("step(" + segment + ", " + step + ", " + what + ")", x.step(segment, step, what), want[what]);
        }
    }

    private static void firstAndLastStep() {
        NearPhrases x = Check.asking(EIGHT_TAGS, EIGHT_WORDS, EIGHT_TAGS, "[2]");
        x.weight(20);
        dueStep(x, 0, 0, 1, 10, 0, -1);
        dueStep(x, 0, 7, 1, 10, 7, -1);
        dueStep(x, 0, 8, 2, 20, -1, 0);
        dueStep(x, 0, 15, 2, 20, -1, 7);
        due("step(0, 16, 0)", x.step(0, 16, 0), NearPhrases.UNKNOWN);
        dueStep(x, 1, 0, 0, 0, 0, 0);
        dueStep(x, 1, 7, 0, 0, 7, 7);
        due("step(1, 8, 0)", x.step(1, 8, 0), NearPhrases.UNKNOWN);
        dueStep(x, 2, 0, 2, 20, -1, 0);
        dueStep(x, 2, 1, 0, 0, 0, 1);
        Check.ask(x, "[1]");
        dueStep(x, 2, 0, 0, 20, 0, 0);
        due("step(2, 1, 0)", x.step(2, 1, 0), NearPhrases.UNKNOWN);
    }

    private static void noSignOfTheSegment() {
        NearPhrases x = Check.asking("b [1] a c", "a");
        dueStep(x, 0, 0, 2, 10, NearPhrases.NONE, 0);
        dueStep(x, 0, 1, 2, 5, NearPhrases.NONE, 1);
        dueStep(x, 0, 2, 0, 0, 0, 2);
        dueStep(x, 0, 3, 2, 10, NearPhrases.NONE, 3);
    }

    private static void noSignOfTheQuestion() {
        NearPhrases x = Check.asking("a", "b [1] a c");
        dueStep(x, 0, 0, 1, 10, 0, NearPhrases.NONE);
        dueStep(x, 0, 1, 1, 5, 1, NearPhrases.NONE);
        dueStep(x, 0, 2, 0, 0, 2, 0);
        dueStep(x, 0, 3, 1, 10, 3, NearPhrases.NONE);
    }

    private static void stepOfUnknownSegment() {
        NearPhrases x = Check.with("a");
        due("step(1, 0, 4), no question", x.step(1, 0, 4), NearPhrases.UNKNOWN);
        due("step(-1, 0, -1), no question", x.step(-1, 0, -1), NearPhrases.UNKNOWN);
        Check.ask(x, "a");
        due("step(1, 0, 0)", x.step(1, 0, 0), NearPhrases.UNKNOWN);
        due("step(1, 0, 4)", x.step(1, 0, 4), NearPhrases.UNKNOWN);
        for (int number : EXTREMES) {
            due("step(" + number + ", 0, 0)", x.step(number, 0, 0), NearPhrases.UNKNOWN);
            due("step(" + number + ", 0, 4)", x.step(number, 0, 4), NearPhrases.UNKNOWN);
        }
        x.drop(0);
        due("step(0, 0, 0) of nothing", x.step(0, 0, 0), NearPhrases.UNKNOWN);
    }

    private static void stepOutside() {
        NearPhrases x = Check.with("a");
        due("step(0, 0, 4), no question", x.step(0, 0, 4), NearPhrases.OUTSIDE);
        due("step(0, 9, -1), no question", x.step(0, 9, -1), NearPhrases.OUTSIDE);
        Check.ask(x, "a");
        due("step(0, 0, 4)", x.step(0, 0, 4), NearPhrases.OUTSIDE);
        due("step(0, 1, 4), no such step either", x.step(0, 1, 4), NearPhrases.OUTSIDE);
        due("step(0, -1, 4), no such step either", x.step(0, -1, 4), NearPhrases.OUTSIDE);
        for (int what : EXTREMES) {
            due("step(0, 0, " + what + ")", x.step(0, 0, what), NearPhrases.OUTSIDE);
            due("step(0, 1, " + what + ")", x.step(0, 1, what), NearPhrases.OUTSIDE);
        }
        due("step(0, 0, 3)", x.step(0, 0, 3), 0);
    }

    private static void stepWithNoQuestion() {
        NearPhrases x = Check.with("a");
        for (int what = 0; what <= 3; what++) {
            due("step(0, 0, " + what + ")", x.step(0, 0, what), NearPhrases.STATE);
            due("step(0, 16, " + what + ")", x.step(0, 16, what), NearPhrases.STATE);
            due("step(0, -1, " + what + ")", x.step(0, -1, what), NearPhrases.STATE);
        }
    }

    private static void unknownStep() {
        NearPhrases x = Check.asking("a b c", "a", "a b c d");
        due("step(0, 2, 0)", x.step(0, 2, 0), 2);
        due("step(0, 3, 0), which the other one has", x.step(0, 3, 0), NearPhrases.UNKNOWN);
        due("step(1, 3, 0)", x.step(1, 3, 0), 1);
        due("step(1, 4, 0)", x.step(1, 4, 0), NearPhrases.UNKNOWN);
        for (int number : EXTREMES) {
            due("step(0, " + number + ", 0)", x.step(0, number, 0), NearPhrases.UNKNOWN);
        }
        Check.ask(x, "a");
        due("step(0, 1, 0) of a shorter question", x.step(0, 1, 0), NearPhrases.UNKNOWN);
        due("step(0, 16, 3)", x.step(0, 16, 3), NearPhrases.UNKNOWN);
    }

    // ---- rank

    private static void firstAndLastRank() {
        NearPhrases one = Check.asking("a", "b", "a");
        due("rank(0) of one", one.rank(0), 1);
        due("rank(1) of one", one.rank(1), NearPhrases.UNKNOWN);
        NearPhrases x = Check.withTwelve();
        Check.ask(x, "l");
        x.bound(500);
        due("rank(0) of twelve", x.rank(0), 11);
        due("rank(1) of twelve", x.rank(1), 0);
        due("rank(11) of twelve", x.rank(11), 10);
        due("rank(12) of twelve", x.rank(12), NearPhrases.UNKNOWN);
    }

    private static void rankWithNoQuestion() {
        NearPhrases x = Check.with("a");
        for (int rank : new int[] {0, 1, 12, -1, Integer.MIN_VALUE, Integer.MAX_VALUE}) {
            due("rank(" + rank + ")", x.rank(rank), NearPhrases.STATE);
        }
        due("rank(0) of a new object", new NearPhrases().rank(0), NearPhrases.STATE);
    }

    private static void unknownRank() {
        NearPhrases none = Check.asking("a");
        due("rank(0), nothing kept", none.rank(0), NearPhrases.UNKNOWN);
        NearPhrases x = Check.asking("a", "b", "c");
        due("rank(0), no match", x.rank(0), NearPhrases.UNKNOWN);
        x.bound(500);
        due("rank(1), two matches", x.rank(1), 1);
        due("rank(2), two matches", x.rank(2), NearPhrases.UNKNOWN);
        for (int number : EXTREMES) {
            due("rank(" + number + ")", x.rank(number), NearPhrases.UNKNOWN);
        }
        x.drop(0);
        due("rank(0), one match", x.rank(0), 0);
        due("rank(1), one match", x.rank(1), NearPhrases.UNKNOWN);
        x.bound(501);
        due("rank(0), none any more", x.rank(0), NearPhrases.UNKNOWN);
    }

    // ---- the question

    private static void dueQuestion(NearPhrases x, int... want) {
        for (int what = 0; what < want.length; what++) {
            due("question(" + what + ")", x.question(what), want[what]);
        }
    }

    private static void leastAndMostOfTheQuestion() {
        NearPhrases x = new NearPhrases();
        Check.ask(x, "[1]");
        dueQuestion(x, 1, 0, 1, 0, 5);
        x.weight(1);
        dueQuestion(x, 1, 0, 1, 0, 1);
        Check.ask(x, EIGHT_TAGS);
        x.weight(20);
        dueQuestion(x, 8, 0, 8, 0, 160);
        Check.ask(x, EIGHT_WORDS);
        dueQuestion(x, 8, 8, 0, 16, 80);
        Check.ask(x, "abcdefghijkl abcdefghijkl abcdefghijkl abcdefghi");
        dueQuestion(x, 4, 4, 0, 49, 40);
        Check.ask(x, "a");
        dueQuestion(x, 1, 1, 0, 2, 10);
    }

    /** Five kinds, then nothing kept, then twelve, of which all, or none, can be one. */
    private static void noneAndAllOfThem() {
        NearPhrases x = fiveKinds();
        x.bound(900);
        dueQuestion(x, 2, 2, 0, 15, 20, 1, 3, 3, 2);
        x.bound(975);
        dueQuestion(x, 2, 2, 0, 15, 20, 1, 3, 3, 2);
        x.bound(976);
        dueQuestion(x, 2, 2, 0, 15, 20, 0, 3, 2, 1);
        x.bound(0);
        dueQuestion(x, 2, 2, 0, 15, 20, 5, 5, 5, 5);
        NearPhrases none = Check.asking("a");
        dueQuestion(none, 1, 1, 0, 2, 10, 0, 0, 0, 0, 0);
        none.bound(0);
        dueQuestion(none, 1, 1, 0, 2, 10, 0, 0, 0, 0, 0);
        NearPhrases full = Check.withTwelve();
        Check.ask(full, "z");
        full.bound(500);
        dueQuestion(full, 1, 1, 0, 2, 10, 12, 12, 12, 12, 0);
        full.bound(501);
        dueQuestion(full, 1, 1, 0, 2, 10, 0, 12, 12, 12, 0);
        full.bound(1000);
        dueQuestion(full, 1, 1, 0, 2, 10, 0, 12, 0, 0, 0);
        Check.ask(full, "z [1]");
        dueQuestion(full, 2, 1, 1, 2, 15, 0, 0, 0, 0, 0);
    }

    private static void noneAndAllCovered() {
        NearPhrases x = Check.asking(EIGHT_WORDS, EIGHT_WORDS, "h");
        due("question(9), all", x.question(9), 8);
        x.drop(0);
        due("question(9), no match", x.question(9), 0);
        x.bound(0);
        due("question(9), the last alone", x.question(9), 1);
        x.drop(0);
        due("question(9), nothing kept", x.question(9), 0);
        Check.keep(x, "[1]");
        due("question(9), nothing alike", x.question(9), 0);
        Check.keep(x, "a b c d");
        Check.keep(x, "c d e f");
        due("question(9), some by two matches", x.question(9), 6);
    }

    private static void questionWithNone() {
        NearPhrases x = Check.with("a");
        for (int what = 0; what <= 9; what++) {
            due("question(" + what + ")", x.question(what), NearPhrases.STATE);
        }
        Check.ask(x, "a");
        due("question(0) behind ask()", x.question(0), 1);
        due("question(9) behind ask()", x.question(9), 1);
    }

    private static void questionOutside() {
        NearPhrases x = Check.with("a");
        due("question(10), none", x.question(10), NearPhrases.OUTSIDE);
        for (int what : EXTREMES) {
            due("question(" + what + "), none", x.question(what), NearPhrases.OUTSIDE);
        }
        Check.ask(x, "a");
        due("question(10)", x.question(10), NearPhrases.OUTSIDE);
        for (int what : EXTREMES) {
            due("question(" + what + ")", x.question(what), NearPhrases.OUTSIDE);
        }
    }

    private static void firstAndLastSign() {
        NearPhrases x = Check.asking("a b c d e f g [1]", "a x x x x x x [1]", "z b c d e f g z");
        x.bound(200);
        int[] due = {1, 1, 1, 1, 1, 1, 1, 1};
        for (int sign = 0; sign < 8; sign++) {
            due("covered(" + sign + ")", x.covered(sign), due[sign]);
        }
        x.drop(1);
        for (int sign = 0; sign < 8; sign++) {
            due("covered(" + sign + ") by the first", x.covered(sign), sign == 0 || sign == 7 ? 1 : 0);
        }
        x.bound(700);
        Check.ask(x, "a");
        due("covered(0) of one sign, no match", x.covered(0), 0);
        Check.keep(x, "a");
        due("covered(0) of one sign", x.covered(0), 1);
    }

    private static void coveredWithNoQuestion() {
        NearPhrases x = Check.with("a");
        for (int sign : new int[] {0, 1, 8, -1, Integer.MIN_VALUE, Integer.MAX_VALUE}) {
            due("covered(" + sign + ")", x.covered(sign), NearPhrases.STATE);
        }
    }

    private static void coveredUnknown() {
        NearPhrases x = Check.asking(EIGHT_WORDS, "a b");
        due("covered(7)", x.covered(7), 0);
        due("covered(8)", x.covered(8), NearPhrases.UNKNOWN);
        for (int number : EXTREMES) {
            due("covered(" + number + ")", x.covered(number), NearPhrases.UNKNOWN);
        }
        Check.ask(x, "a");
        due("covered(1) of a shorter question", x.covered(1), NearPhrases.UNKNOWN);
        due("covered(0) of a shorter question", x.covered(0), 0);
        due("covered(0), nothing kept", Check.asking("a").covered(0), 0);
    }
}
