import java.io.IOException;
import java.util.LinkedHashMap;
import java.util.Map;
import java.util.function.Supplier;
import java.util.function.ToIntFunction;

/** The order of the refusals, and that they change nothing. */
public final class EdgesOfRefusalsTest {
    private static final int UNKNOWN = NearPhrases.UNKNOWN;
    private static final int OUTSIDE = NearPhrases.OUTSIDE;
    private static final int STATE = NearPhrases.STATE;
    private static final int FULL = NearPhrases.FULL;
    private static final Check CHECK = new Check("EdgesOfRefusalsTest");

    public static void main(String[] args) throws IOException {
        Edges edges = new Edges(CHECK, args);
        edges.sentence("Refusals, of several the first as told by each call", EdgesOfRefusalsTest::firstOfSeveral);
        edges.sentence("UNKNOWN (a number names nothing)", EdgesOfRefusalsTest::numbersOfWhatWasDropped);
        edges.sentence("they change nothing", EdgesOfRefusalsTest::changeNothing);
        edges.end();
    }

    private static void due(String call, long got, long want) {
        CHECK.due(call, got, want);
    }

    /** Each call is wrong in all the ways that are named, then in one way less. */
    private static void firstOfSeveral() {
        NearPhrases page = new NearPhrases();
        Check.type(page, "a".repeat(48));
        due("letter: OUTSIDE, FULL", page.letter(127), OUTSIDE);
        due("letter: FULL", page.letter(126), FULL);
        NearPhrases full = Check.withTwelve();
        due("keep: STATE, FULL", Check.keep(full, "m "), STATE);
        due("keep: FULL", Check.keep(full, "n"), FULL);
        NearPhrases x = Check.with("a", "[1]");
        due("segment: UNKNOWN, OUTSIDE", x.segment(2, 6), UNKNOWN);
        due("segment: OUTSIDE", x.segment(1, 6), OUTSIDE);
        due("sign: UNKNOWN twice, OUTSIDE", x.sign(2, 1, 14), UNKNOWN);
        due("sign: UNKNOWN, OUTSIDE", x.sign(1, 1, 14), UNKNOWN);
        due("sign: OUTSIDE", x.sign(1, 0, 14), OUTSIDE);
        due("two: UNKNOWN twice, OUTSIDE", x.two(2, 2, 5), UNKNOWN);
        due("two: UNKNOWN, OUTSIDE", x.two(0, 2, 5), UNKNOWN);
        due("two: OUTSIDE", x.two(0, 1, 5), OUTSIDE);
        due("near: UNKNOWN, OUTSIDE, STATE", x.near(2, 10), UNKNOWN);
        due("near: UNKNOWN, STATE", x.near(2, 0), UNKNOWN);
        due("near: OUTSIDE, STATE", x.near(1, 10), OUTSIDE);
        due("near: STATE", x.near(1, 9), STATE);
        due("step: UNKNOWN, OUTSIDE, STATE, UNKNOWN", x.step(2, 99, 4), UNKNOWN);
        due("step: UNKNOWN, STATE", x.step(2, 0, 0), UNKNOWN);
        due("step: OUTSIDE, STATE, UNKNOWN", x.step(1, 99, 4), OUTSIDE);
        due("step: STATE, UNKNOWN", x.step(1, 99, 3), STATE);
        due("step: STATE", x.step(1, 0, 3), STATE);
        due("rank: STATE, UNKNOWN", x.rank(99), STATE);
        due("question: OUTSIDE, STATE", x.question(10), OUTSIDE);
        due("question: STATE", x.question(9), STATE);
        due("covered: STATE, UNKNOWN", x.covered(99), STATE);
        Check.ask(x, "a");
        due("near: UNKNOWN, OUTSIDE, with a question", x.near(2, 10), UNKNOWN);
        due("step: UNKNOWN, OUTSIDE, UNKNOWN, with a question", x.step(2, 99, 4), UNKNOWN);
        due("step: OUTSIDE, UNKNOWN, with a question", x.step(1, 99, 4), OUTSIDE);
        due("step: UNKNOWN, with a question", x.step(1, 99, 3), UNKNOWN);
        due("rank: UNKNOWN", x.rank(99), UNKNOWN);
        due("covered: UNKNOWN", x.covered(99), UNKNOWN);
    }

    /** What the rows hold of one that was dropped is named by no number any more. */
    private static void numbersOfWhatWasDropped() {
        NearPhrases x = Check.asking("a b", "a b", "c d");
        due("near(1, 0)", x.near(1, 0), 20);
        x.drop(1);
        due("drop(1)", x.drop(1), UNKNOWN);
        due("segment(1, 0)", x.segment(1, 0), UNKNOWN);
        due("sign(1, 0, 0)", x.sign(1, 0, 0), UNKNOWN);
        due("alike(0, 0, 1, 0)", x.alike(0, 0, 1, 0), UNKNOWN);
        due("alike(1, 0, 0, 0)", x.alike(1, 0, 0, 0), UNKNOWN);
        due("two(0, 1, 0)", x.two(0, 1, 0), UNKNOWN);
        due("two(1, 0, 0)", x.two(1, 0, 0), UNKNOWN);
        due("near(1, 0)", x.near(1, 0), UNKNOWN);
        due("step(1, 0, 0)", x.step(1, 0, 0), UNKNOWN);
        x.drop(0);
        due("rank(0)", x.rank(0), UNKNOWN);
        due("segment(0, 0)", x.segment(0, 0), UNKNOWN);
    }

    private static Map<String, ToIntFunction<NearPhrases>> refusedAlways() {
        Map<String, ToIntFunction<NearPhrases>> calls = new LinkedHashMap<>();
        calls.put("letter(31)", x -> x.letter(31));
        calls.put("letter(127)", x -> x.letter(127));
        calls.put("drop(-1)", x -> x.drop(-1));
        calls.put("drop(12)", x -> x.drop(12));
        calls.put("weight(0)", x -> x.weight(0));
        calls.put("weight(21)", x -> x.weight(21));
        calls.put("bound(-1)", x -> x.bound(-1));
        calls.put("bound(1001)", x -> x.bound(1001));
        calls.put("segment(12, 0)", x -> x.segment(12, 0));
        calls.put("segment(0, 6)", x -> x.segment(0, 6));
        calls.put("sign(12, 0, 0)", x -> x.sign(12, 0, 0));
        calls.put("sign(0, 8, 0)", x -> x.sign(0, 8, 0));
        calls.put("sign(0, 0, 14)", x -> x.sign(0, 0, 14));
        calls.put("alike(0, 0, 12, 0)", x -> x.alike(0, 0, 12, 0));
        calls.put("two(0, 12, 0)", x -> x.two(0, 12, 0));
        calls.put("two(0, 0, 5)", x -> x.two(0, 0, 5));
        calls.put("gram(^$)", x -> x.gram('^', '$'));
        calls.put("near(12, 0)", x -> x.near(12, 0));
        calls.put("near(0, 10)", x -> x.near(0, 10));
        calls.put("step(0, 0, 4)", x -> x.step(0, 0, 4));
        calls.put("step(0, 16, 0)", x -> x.step(0, 16, 0));
        calls.put("rank(12)", x -> x.rank(12));
        calls.put("question(10)", x -> x.question(10));
        calls.put("covered(8)", x -> x.covered(8));
        calls.put("count(8)", x -> x.count(8));
        return calls;
    }

    private static NearPhrases typed(NearPhrases x, String text) {
        Check.type(x, text);
        return x;
    }

    /** With and without a question, with pages that are none, one that finds no room, and one that is full. */
    private static void changeNothing() {
        Map<String, Supplier<NearPhrases>> states = new LinkedHashMap<>();
        states.put("new", NearPhrases::new);
        states.put("no question", () -> typed(Check.with("a b [1]", "c"), "[1"));
        states.put("a question", () -> typed(Check.asking("a c", "a b [1]", "c", "a c"), "x y"));
        states.put("twelve", () -> typed(Check.withTwelve(), "m"));
        states.put("a full page", () -> typed(Check.asking("c", "b", "c"), "a".repeat(48)));
        for (Map.Entry<String, Supplier<NearPhrases>> state : states.entrySet()) {
            refusedAlways().forEach((name, call) -> dueNoChange(state.getKey(), state.getValue(), name, call));
        }
        dueNoChange("new", NearPhrases::new, "keep()", NearPhrases::keep);
        dueNoChange("new", NearPhrases::new, "ask()", NearPhrases::ask);
        dueNoChange("no question", states.get("no question"), "keep()", NearPhrases::keep);
        dueNoChange("no question", states.get("no question"), "ask()", NearPhrases::ask);
        dueNoChange("no question", states.get("no question"), "near(0, 0)", x -> x.near(0, 0));
        dueNoChange("no question", states.get("no question"), "covered(0)", x -> x.covered(0));
        dueNoChange("twelve", states.get("twelve"), "keep()", NearPhrases::keep);
        dueNoChange("a full page", states.get("a full page"), "letter(97)", x -> x.letter('a'));
        dueNoChange("a full page", states.get("a full page"), "keep()", NearPhrases::keep);
        dueNoChange("a full page", states.get("a full page"), "ask()", NearPhrases::ask);
    }

    /** Two objects of the same calls, of which the second has the refused one (twice) besides. */
    private static void dueNoChange(String state, Supplier<NearPhrases> made, String name,
            ToIntFunction<NearPhrases> call) {
        NearPhrases without = made.get();
        NearPhrases with = made.get();
        String of = name + " on " + state;
        CHECK.holds(of + " is refused", call.applyAsInt(with) <= UNKNOWN);
        due("digest() behind " + of, with.digest(), without.digest());
        CHECK.holds(of + " is refused again", call.applyAsInt(with) <= UNKNOWN);
        due("digest() behind it again", with.digest(), without.digest());
        CHECK.holds("the same told behind " + of, told(with).equals(told(without)));
        due("keep() behind " + of, with.keep(), without.keep());
        due("digest() behind keep() behind " + of, with.digest(), without.digest());
    }

    /** What digest() does not see: the letters, the grams by name, the steps, the ranks, the fault. */
    private static String told(NearPhrases x) {
        StringBuilder told = new StringBuilder();
        told.append(x.fault());
        for (int segment = 0; segment < 12; segment++) {
            for (int sign = 0; sign < 3; sign++) {
                told.append(' ').append(x.sign(segment, sign, 1)).append(' ').append(x.sign(segment, sign, 2));
            }
            told.append(' ').append(x.step(segment, 1, 0)).append(' ').append(x.step(segment, 1, 1));
            told.append(' ').append(x.gram('^', 'a' + segment)).append(' ').append(x.rank(segment));
        }
        for (int sign = 0; sign < 8; sign++) {
            told.append(' ').append(x.covered(sign));
        }
        return told.toString();
    }
}
