import java.util.Random;

/** Runs of 512 calls, each answer compared with that of the plain model; the seed never changes. */
public final class ModelTest {
    private static final int RUNS = 200;
    private static final int CALLS = 512;
    private static final String[] WORDS = {"a", "b", "ab", "ba", "aab", "abab", "the", "cat", "cats", "sat", "zz",
        "open", "abcdefghijkl", "abcdefghijkx", "bcdefghijkla", "[1]", "[1]", "[2]", "[9]"};
    private static final Check CHECK = new Check("ModelTest");
    private static final Random RANDOM = new Random(20261118);

    private static NearPhrases x;
    private static PlainModel m;
    private static int calls;

    public static void main(String[] args) {
        allShortPages();
        for (int run = 0; run < RUNS && CHECK.wrong() < 20; run++) {
            x = new NearPhrases();
            m = new PlainModel();
            calls = 0;
            int most = run % 4 == 0 ? 2 : 8;
            if (run % 5 == 0) {
                fill();
            }
            while (calls < CALLS - 60) {
                callOnce(run, most);
            }
            due("run " + run + ": digest()", x.digest(), m.digest());
        }
        CHECK.end();
    }

    private static void due(String call, long got, long want) {
        calls++;
        CHECK.due(call, got, want);
    }

    /** Each page of up to five of seven letters, for fault(), keep() and ask(). */
    private static void allShortPages() {
        String letters = "a []190";
        for (int length = 0; length <= 5; length++) {
            int pages = (int) Math.round(Math.pow(letters.length(), length));
            for (int number = 0; number < pages; number++) {
                x = new NearPhrases();
                m = new PlainModel();
                StringBuilder text = new StringBuilder();
                for (int k = 0, rest = number; k < length; k++, rest /= letters.length()) {
                    text.append(letters.charAt(rest % letters.length()));
                }
                Check.type(x, text.toString());
                text.chars().forEach(m::letter);
                due("fault() of \"" + text + "\"", x.fault(), m.fault());
                due("keep() of \"" + text + "\"", x.keep(), m.keep());
                due("ask() behind keep() of \"" + text + "\"", x.ask(), m.ask());
                due("digest() behind \"" + text + "\"", x.digest(), m.digest());
            }
        }
    }

    /** Twelve short ones, so that FULL comes up. */
    private static void fill() {
        for (int i = 0; i < 12; i++) {
            type("fill", "" + (char) ('a' + i));
            due("fill: keep()", x.keep(), m.keep());
        }
    }

    private static void callOnce(int run, int most) {
        String at = "run " + run + ", call " + calls + ": ";
        int kind = RANDOM.nextInt(100);
        if (kind < 12) {
            type(at, text(most));
            int then = RANDOM.nextInt(10);
            if (then < 6) {
                due(at + "keep()", x.keep(), m.keep());
            } else if (then < 9) {
                due(at + "ask()", x.ask(), m.ask());
            }
            due(at + "fault()", x.fault(), m.fault());
        } else if (kind < 22) {
            change(at);
        } else if (kind < 26) {
            due(at + "digest()", x.digest(), m.digest());
        } else if (kind < 60) {
            askForSegments(at);
        } else {
            askForTheQuestion(at);
        }
    }

    private static void type(String at, String text) {
        for (int i = 0; i < text.length(); i++) {
            int code = text.charAt(i);
            due(at + "letter(" + code + ")", x.letter(code), m.letter(code));
        }
    }

    private static String text(int most) {
        StringBuilder text = new StringBuilder();
        int signs = 1 + RANDOM.nextInt(most);
        for (int i = 0; i < signs; i++) {
            String sign = i > 0 ? " " : "";
            sign += WORDS[RANDOM.nextInt(WORDS.length)];
            if (text.length() + sign.length() <= 48) {
                text.append(sign);
            }
        }
        if (RANDOM.nextInt(12) == 0) {
            text.insert(RANDOM.nextInt(text.length() + 1), (char) (31 + RANDOM.nextInt(97)));
        }
        return text.toString();
    }

    /** Mostly from one below the first to two above the last. */
    private static int number(int last) {
        switch (RANDOM.nextInt(40)) {
            case 0:
                return Integer.MIN_VALUE + RANDOM.nextInt(3);
            case 1:
                return Integer.MAX_VALUE - RANDOM.nextInt(3);
            default:
                return RANDOM.nextInt(8) == 0 ? RANDOM.nextInt(last + 4) - 1 : RANDOM.nextInt(last + 1);
        }
    }

    private static int keptNumber() {
        return number(Math.max(0, m.count(1) - 1));
    }

    private static void change(String at) {
        int v;
        switch (RANDOM.nextInt(5)) {
            case 0:
                due(at + "blank()", x.blank(), m.blank());
                break;
            case 1:
                v = number(20);
                due(at + "weight(" + v + ")", x.weight(v), m.weight(v));
                break;
            case 2:
                v = RANDOM.nextBoolean() ? number(1000) : 50 * number(20);
                due(at + "bound(" + v + ")", x.bound(v), m.bound(v));
                break;
            case 3:
                v = 28 + RANDOM.nextInt(103);
                due(at + "letter(" + v + ")", x.letter(v), m.letter(v));
                break;
            default:
                v = keptNumber();
                due(at + "drop(" + v + ")", x.drop(v), m.drop(v));
        }
    }

    private static void askForSegments(String at) {
        int a = keptNumber();
        int b = keptNumber();
        int i = number(3);
        int j = number(3);
        int what = number(5);
        switch (RANDOM.nextInt(6)) {
            case 0:
                due(at + "segment(" + a + ", " + what + ")", x.segment(a, what), m.segment(a, what));
                break;
            case 1:
                what = number(13);
                due(at + "sign(" + a + ", " + i + ", " + what + ")", x.sign(a, i, what), m.sign(a, i, what));
                break;
            case 2:
                due(at + "alike(" + a + ", " + i + ", " + b + ", " + j + ")", x.alike(a, i, b, j), m.alike(a, i, b, j));
                break;
            case 3:
                int one = gramCode('^');
                int other = gramCode('$');
                due(at + "gram(" + one + ", " + other + ")", x.gram(one, other), m.gram(one, other));
                break;
            default:
                due(at + "two(" + a + ", " + b + ", " + what + ")", x.two(a, b, what), m.two(a, b, what));
        }
    }

    private static int gramCode(char edge) {
        switch (RANDOM.nextInt(8)) {
            case 0:
                return 90 + RANDOM.nextInt(40);
            case 1:
                return edge == '^' ? '$' : '^';
            case 2:
            case 3:
                return edge;
            default:
                return 'a' + RANDOM.nextInt(4);
        }
    }

    private static void askForTheQuestion(String at) {
        int a = keptNumber();
        int what = number(9);
        int place = number(5);
        switch (RANDOM.nextInt(7)) {
            case 0:
                due(at + "rank(" + place + ")", x.rank(place), m.rank(place));
                break;
            case 1:
                due(at + "question(" + what + ")", x.question(what), m.question(what));
                break;
            case 2:
                due(at + "covered(" + place + ")", x.covered(place), m.covered(place));
                break;
            case 3:
                due(at + "count(" + what + ")", x.count(what), m.count(what));
                break;
            case 4:
            case 5:
                what = number(3);
                due(at + "step(" + a + ", " + place + ", " + what + ")", x.step(a, place, what),
                        m.step(a, place, what));
                break;
            default:
                due(at + "near(" + a + ", " + what + ")", x.near(a, what), m.near(a, what));
        }
    }
}
