import java.util.ArrayList;
import java.util.List;

/** What the tests share: comparing an answer with the one that is due, and typing texts. */
final class Check {
    private final String test;
    private int wrong;
    private int asked;

    Check(String test) {
        this.test = test;
    }

    void due(String call, long got, long want) {
        asked++;
        if (got != want) {
            wrong++;
            System.out.println(test + ": " + call + " answered " + got + ", due is " + want);
        }
    }

    void holds(String what, boolean does) {
        asked++;
        if (!does) {
            wrong++;
            System.out.println(test + ": " + what + " does not hold");
        }
    }

    int wrong() {
        return wrong;
    }

    int asked() {
        return asked;
    }

    void end() {
        System.out.println(test + ": " + asked + " looked at, " + wrong + " wrong");
        if (wrong != 0) {
            System.exit(1);
        }
    }

    static void type(NearPhrases x, String text) {
        for (int i = 0; i < text.length(); i++) {
            x.letter(text.charAt(i));
        }
    }

    static int keep(NearPhrases x, String text) {
        type(x, text);
        return x.keep();
    }

    static int ask(NearPhrases x, String text) {
        type(x, text);
        return x.ask();
    }

    /** What keep() answers to a text that comes to a new object. */
    static int keepAlone(String text) {
        return keep(new NearPhrases(), text);
    }

    static NearPhrases with(String... texts) {
        NearPhrases x = new NearPhrases();
        for (String text : texts) {
            keep(x, text);
        }
        return x;
    }

    /** "a" to "l" are kept, each a segment of its own. */
    static NearPhrases withTwelve() {
        NearPhrases x = new NearPhrases();
        for (int i = 0; i < 12; i++) {
            x.letter('a' + i);
            x.keep();
        }
        return x;
    }

    static NearPhrases asking(String question, String... texts) {
        NearPhrases x = with(texts);
        ask(x, question);
        return x;
    }

    /** The kinds of the steps of a segment, as digits side by side. */
    static String kinds(NearPhrases x, int segment) {
        StringBuilder kinds = new StringBuilder();
        for (int k = 0; k < x.near(segment, 4); k++) {
            kinds.append(x.step(segment, k, 0));
        }
        return kinds.toString();
    }

    static long foldOf(int... numbers) {
        List<Long> longs = new ArrayList<>();
        for (int number : numbers) {
            longs.add((long) number);
        }
        return fold(longs);
    }

    static long fold(List<Long> numbers) {
        long h = 1637;
        for (long number : numbers) {
            h = 31 * h + number;
        }
        return h;
    }
}
