import java.util.Random;

/**
 * FAR and THE STEPS beside an enumeration of all rows of steps, which needs no thought about what a
 * least row is made of; the words are random ones of few letters, so that rows of like cost abound.
 */
public final class AllRowsTest {
    private static final int RUNS = 150;
    private static final int KEPT = 4;
    private static final Check CHECK = new Check("AllRowsTest");
    private static final Random RANDOM = new Random(9);

    private static int tagCost;
    private static String[] one;
    private static String[] other;
    private static int leastCost;
    private static String leastRow;
    private static long rowsOfLikeCost;

    public static void main(String[] args) {
        for (int run = 0; run < RUNS && CHECK.wrong() < 20; run++) {
            lookAt(run);
        }
        CHECK.holds("that rows of like cost came up often: " + rowsOfLikeCost, rowsOfLikeCost > RUNS);
        CHECK.end();
    }

    private static void lookAt(int run) {
        int most = 1 + RANDOM.nextInt(8);
        int tagsOfTen = RANDOM.nextInt(9);
        NearPhrases x = new NearPhrases();
        tagCost = 1 + RANDOM.nextInt(20);
        x.weight(tagCost);
        String question = text(most, tagsOfTen);
        String[] texts = new String[KEPT];
        for (int i = 0; i < KEPT; i++) {
            texts[i] = text(most, tagsOfTen);
        }
        Check.ask(x, question);
        for (String text : texts) {
            int number = Check.keep(x, text);
            enumerate(text, question);
            lookAtSteps("run " + run + ", \"" + text + "\" to \"" + question + "\", weight " + tagCost, x, number);
        }
    }

    private static void lookAtSteps(String at, NearPhrases x, int number) {
        CHECK.due(at + ": FAR", x.near(number, 0), leastCost);
        CHECK.due(at + ": how many STEPS", x.near(number, 4), leastRow.length());
        int i = 0;
        int j = 0;
        for (int k = 0; k < leastRow.length(); k++) {
            int kind = leastRow.charAt(k) - '0';
            int cost = kind == 0 ? costOfBoth(one[i], other[j]) : costOf(kind == 1 ? one[i] : other[j]);
            CHECK.due(at + ": which is STEP " + k, x.step(number, k, 0), kind);
            CHECK.due(at + ": cost of STEP " + k, x.step(number, k, 1), cost);
            CHECK.due(at + ": SIGN of the SEGMENT, " + k, x.step(number, k, 2), kind == 2 ? NearPhrases.NONE : i++);
            CHECK.due(at + ": SIGN of THE QUESTION, " + k, x.step(number, k, 3), kind == 1 ? NearPhrases.NONE : j++);
        }
        CHECK.due(at + ": no more STEPS", x.step(number, leastRow.length(), 0), NearPhrases.UNKNOWN);
    }

    private static void enumerate(String text, String question) {
        one = text.split(" ");
        other = question.split(" ");
        leastCost = Integer.MAX_VALUE;
        leastRow = "";
        goOn(0, 0, 0, "");
    }

    /** Each row of steps that is not dearer than one that is known already. */
    private static void goOn(int i, int j, int cost, String row) {
        if (cost > leastCost) {
            return;
        }
        if (i == one.length && j == other.length) {
            rowsOfLikeCost += cost == leastCost ? 1 : 0;
            if (cost < leastCost || row.compareTo(leastRow) < 0) {
                leastRow = row;
            }
            leastCost = cost;
            return;
        }
        if (j < other.length) {
            goOn(i, j + 1, cost + costOf(other[j]), row + "2");
        }
        if (i < one.length) {
            goOn(i + 1, j, cost + costOf(one[i]), row + "1");
        }
        if (i < one.length && j < other.length && isTag(one[i]) == isTag(other[j])) {
            goOn(i + 1, j + 1, cost + costOfBoth(one[i], other[j]), row + "0");
        }
    }

    private static boolean isTag(String sign) {
        return sign.startsWith("[");
    }

    private static int costOf(String sign) {
        return isTag(sign) ? tagCost : 10;
    }

    private static int costOfBoth(String a, String b) {
        if (a.equals(b)) {
            return 0;
        }
        if (isTag(a)) {
            return tagCost;
        }
        int edits = 1;
        while (!isWithin(edits, a, b)) {
            edits++;
        }
        int longer = Math.max(a.length(), b.length());
        return (10 * edits + longer - 1) / longer;
    }

    /** Whether so many letters put in, left out or put in the place of another make the one the other. */
    private static boolean isWithin(int edits, String a, String b) {
        if (a.isEmpty() || b.isEmpty()) {
            return a.length() + b.length() <= edits;
        }
        String restOfA = a.substring(1);
        String restOfB = b.substring(1);
        if (a.charAt(0) == b.charAt(0) && isWithin(edits, restOfA, restOfB)) {
            return true;
        }
        return edits > 0 && (isWithin(edits - 1, restOfA, restOfB) || isWithin(edits - 1, restOfA, b)
                || isWithin(edits - 1, a, restOfB));
    }

    private static String text(int most, int tagsOfTen) {
        StringBuilder text = new StringBuilder();
        int signs = 1 + RANDOM.nextInt(most);
        for (int i = 0; i < signs; i++) {
            text.append(i > 0 ? " " : "");
            text.append(RANDOM.nextInt(10) < tagsOfTen ? "[" + (1 + RANDOM.nextInt(3)) + "]" : word());
        }
        return text.toString();
    }

    /** Five letters at most, so that eight of them have room on the page. */
    private static String word() {
        StringBuilder word = new StringBuilder();
        int letters = 1 + RANDOM.nextInt(5);
        for (int i = 0; i < letters; i++) {
            word.append((char) ('a' + RANDOM.nextInt(2)));
        }
        return word.toString();
    }
}
