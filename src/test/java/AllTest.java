import java.util.ArrayList;
import java.util.List;

/** Promises 20 and 21: what is told of all. */
public final class AllTest {
    private static final Check CHECK = new Check("AllTest");

    public static void main(String[] args) {
        count();
        digestOfANewObject();
        digestByNumbersWrittenOut();
        digestIsMadeOfTheOtherAnswers();
        CHECK.end();
    }

    private static void dueCounts(NearPhrases x, int... want) {
        for (int what = 0; what < want.length; what++) {
            CHECK.due("count(" + what + ")", x.count(what), want[what]);
        }
    }

    private static void count() {
        NearPhrases x = Check.with("ab", "ba [1]", "ab", "abab");
        dueCounts(x, 0, 3, 4, 0, 0, 5, 700, 6);
        Check.ask(x, "xyz");
        x.drop(1);
        x.weight(7);
        x.bound(1);
        Check.type(x, "?!");
        dueCounts(x, 2, 2, 4, 1, 1, 7, 1, 4);
        x.drop(0);
        x.drop(7);
        dueCounts(x, 2, 1, 4, 2, 1, 7, 1, 4);
        for (int what : new int[] {-1, 8, Integer.MIN_VALUE, Integer.MAX_VALUE}) {
            CHECK.due("count(" + what + ")", x.count(what), NearPhrases.OUTSIDE);
        }
    }

    private static void digestOfANewObject() {
        CHECK.due("digest() of a new object", new NearPhrases().digest(),
                Check.fold(List.of(0L, 0L, 0L, 0L, 0L, 5L, 700L, 0L)));
    }

    /** "b" and "a" are asked for "a", so that number 1 has the first rank and number 0 the second. */
    private static void digestByNumbersWrittenOut() {
        NearPhrases x = Check.with("b", "a");
        x.bound(500);
        Check.ask(x, "a");
        Check.type(x, "z!");
        List<Long> due = new ArrayList<>();
        add(due, 1, 1, 0, 2, 10, 1);
        add(due, 1, 1, 0, 2, 10, 1);
        add(due, 10, 20, 500, 0, 1);
        add(due, 1, 1, 0, 2, 10, 2, 2, 2, 2, 1);
        add(due, 10, 20, 500, 0, 1, 10, 1, 1, 1, 0);
        add(due, 0, 20, 1000, 2, 1, 10, 1, 1, 1, 0);
        add(due, 1, 0);
        add(due, 'z', '!');
        add(due, 2, 2, 2, 0, 1, 5, 500, 4);
        CHECK.due("digest() by numbers written out", x.digest(), Check.fold(due));
    }

    private static void digestIsMadeOfTheOtherAnswers() {
        NearPhrases x = Check.with("the cat sat", "the [1] cat", "a cat", "[1] [2]", "a b c d e f g h", "the cat sat");
        CHECK.due("digest() with no question", x.digest(), Check.fold(answers(x)));
        Check.ask(x, "the cat [1]");
        for (int v : new int[] {0, 300, 600, 1000}) {
            x.bound(v);
            CHECK.due("digest() at bound " + v, x.digest(), Check.fold(answers(x)));
        }
        x.weight(13);
        CHECK.due("digest() at another weight", x.digest(), Check.fold(answers(x)));
        x.drop(1);
        CHECK.due("digest() behind a drop", x.digest(), Check.fold(answers(x)));
        Check.type(x, "so on");
        CHECK.due("digest() with letters", x.digest(), Check.fold(answers(x)));
        CHECK.due("digest() again", x.digest(), Check.fold(answers(x)));
    }

    private static void add(List<Long> numbers, int... more) {
        for (int number : more) {
            numbers.add((long) number);
        }
    }

    /** Here the page is empty or "so on". */
    private static List<Long> answers(NearPhrases x) {
        List<Long> numbers = new ArrayList<>();
        int kept = x.count(1);
        for (int i = 0; i < kept; i++) {
            for (int what = 0; what <= 5; what++) {
                add(numbers, x.segment(i, what));
            }
        }
        for (int a = 0; a < kept; a++) {
            for (int b = a + 1; b < kept; b++) {
                for (int what = 0; what <= 4; what++) {
                    add(numbers, x.two(a, b, what));
                }
            }
        }
        if (x.count(4) > 0) {
            addAnswersOfTheQuestion(x, numbers);
        }
        if (x.count(0) > 0) {
            add(numbers, 's', 'o', ' ', 'o', 'n');
        }
        for (int what = 0; what <= 7; what++) {
            add(numbers, x.count(what));
        }
        return numbers;
    }

    private static void addAnswersOfTheQuestion(NearPhrases x, List<Long> numbers) {
        for (int what = 0; what <= 9; what++) {
            add(numbers, x.question(what));
        }
        for (int i = 0; i < x.count(1); i++) {
            for (int what = 0; what <= 9; what++) {
                add(numbers, x.near(i, what));
            }
        }
        for (int r = 0; r < x.question(5); r++) {
            add(numbers, x.rank(r));
        }
    }
}
