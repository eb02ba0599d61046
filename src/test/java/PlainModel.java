import java.util.ArrayList;
import java.util.Arrays;
import java.util.Comparator;
import java.util.HashMap;
import java.util.HashSet;
import java.util.List;
import java.util.Map;
import java.util.Set;
import java.util.regex.Matcher;
import java.util.regex.Pattern;

/**
 * The document once more, over texts and the Java library, as slow and as near to its words as may
 * be, so that a fault of the class is not likely to stand here as well.
 */
final class PlainModel {
    static final int NONE = -1, UNKNOWN = -1001, OUTSIDE = -1002, STATE = -1003, FULL = -1004;
    private static final String ONE_SIGN = "(?:[a-z]{1,12}|\\[[1-9]\\])";
    private static final Pattern SEGMENT = Pattern.compile(ONE_SIGN + "(?: " + ONE_SIGN + "){0,7}");

    /** A row of steps as digits, and what they cost together. */
    private record Way(int cost, String kinds) {
    }

    private final List<String> kept = new ArrayList<>();
    private final List<Integer> told = new ArrayList<>();
    private String page = "";
    private String question;
    private int weight = 5;
    private int bound = 700;
    private int keptEver;
    private int droppedEver;
    private int askedEver;

    int letter(int code) {
        if (code < 32 || code > 126) {
            return OUTSIDE;
        }
        if (page.length() == 48) {
            return FULL;
        }
        page += (char) code;
        return page.length();
    }

    int blank() {
        int had = page.length();
        page = "";
        return had;
    }

    int fault() {
        for (int i = 0; i < page.length(); i++) {
            Matcher matcher = SEGMENT.matcher(page.substring(0, i + 1));
            if (!matcher.matches() && !matcher.hitEnd()) {
                return i;
            }
        }
        return page.length();
    }

    int keep() {
        if (!SEGMENT.matcher(page).matches()) {
            return STATE;
        }
        int number = kept.indexOf(page);
        if (number < 0) {
            if (kept.size() == 12) {
                return FULL;
            }
            number = kept.size();
            kept.add(page);
            told.add(0);
        }
        told.set(number, told.get(number) + 1);
        keptEver++;
        page = "";
        return number;
    }

    int drop(int segment) {
        if (isUnknown(segment)) {
            return UNKNOWN;
        }
        kept.remove(segment);
        told.remove(segment);
        droppedEver++;
        return kept.size();
    }

    int ask() {
        if (!SEGMENT.matcher(page).matches()) {
            return STATE;
        }
        question = page;
        page = "";
        askedEver++;
        return signs(question).length;
    }

    int weight(int v) {
        if (v < 1 || v > 20) {
            return OUTSIDE;
        }
        int was = weight;
        weight = v;
        return was;
    }

    int bound(int v) {
        if (v < 0 || v > 1000) {
            return OUTSIDE;
        }
        int was = bound;
        bound = v;
        return was;
    }

    int segment(int segment, int what) {
        if (isUnknown(segment)) {
            return UNKNOWN;
        }
        if (what < 0 || what > 5) {
            return OUTSIDE;
        }
        return what == 5 ? told.get(segment) : numberOf(kept.get(segment), what);
    }

    int sign(int segment, int sign, int what) {
        if (isUnknownSign(segment, sign)) {
            return UNKNOWN;
        }
        if (what < 0 || what > 13) {
            return OUTSIDE;
        }
        String text = signs(kept.get(segment))[sign];
        if (isTag(text)) {
            return what == 0 ? 0 : what == 1 ? text.charAt(1) - '0' : NONE;
        }
        if (what < 2) {
            return what == 0 ? text.length() : 0;
        }
        return what - 2 < text.length() ? text.charAt(what - 2) : NONE;
    }

    int alike(int a, int i, int b, int j) {
        if (isUnknownSign(a, i) || isUnknownSign(b, j)) {
            return UNKNOWN;
        }
        String one = signs(kept.get(a))[i];
        String other = signs(kept.get(b))[j];
        return isTag(one) || isTag(other) ? NONE : alike(one, other);
    }

    int two(int a, int b, int what) {
        if (isUnknown(a) || isUnknown(b)) {
            return UNKNOWN;
        }
        if (what < 0 || what > 4) {
            return OUTSIDE;
        }
        return ofTwo(kept.get(a), kept.get(b), what);
    }

    int gram(int one, int other) {
        boolean oneFits = one == '^' || one >= 'a' && one <= 'z';
        boolean otherFits = other == '$' || other >= 'a' && other <= 'z';
        if (!oneFits || !otherFits || one == '^' && other == '$') {
            return OUTSIDE;
        }
        String sought = "" + (char) one + (char) other;
        return (int) kept.stream().filter(text -> grams(text).contains(sought)).count();
    }

    int near(int segment, int what) {
        if (isUnknown(segment)) {
            return UNKNOWN;
        }
        if (what < 0 || what > 9) {
            return OUTSIDE;
        }
        if (question == null) {
            return STATE;
        }
        return ofNear(kept.get(segment), what);
    }

    int step(int segment, int step, int what) {
        if (isUnknown(segment)) {
            return UNKNOWN;
        }
        if (what < 0 || what > 3) {
            return OUTSIDE;
        }
        if (question == null) {
            return STATE;
        }
        List<int[]> steps = steps(kept.get(segment));
        return step < 0 || step >= steps.size() ? UNKNOWN : steps.get(step)[what];
    }

    int rank(int rank) {
        if (question == null) {
            return STATE;
        }
        List<Integer> ranks = ranks();
        return rank < 0 || rank >= ranks.size() ? UNKNOWN : ranks.get(rank);
    }

    int question(int what) {
        if (what < 0 || what > 9) {
            return OUTSIDE;
        }
        if (question == null) {
            return STATE;
        }
        switch (what) {
            case 5:
                return (int) kept.stream().filter(text -> ofNear(text, 8) == 1).count();
            case 6:
                return (int) kept.stream().filter(text -> ofNear(text, 6) == 1).count();
            case 7:
                return (int) kept.stream().filter(text -> ofNear(text, 7) == 1).count();
            case 8:
                return (int) kept.stream().filter(text -> ofNear(text, 6) == 1 && ofNear(text, 7) == 1).count();
            case 9:
                return coveredSigns().size();
            default:
                return numberOf(question, what);
        }
    }

    int covered(int sign) {
        if (question == null) {
            return STATE;
        }
        if (sign < 0 || sign >= signs(question).length) {
            return UNKNOWN;
        }
        return coveredSigns().contains(sign) ? 1 : 0;
    }

    int count(int what) {
        Set<String> grams = new HashSet<>();
        kept.forEach(text -> grams.addAll(grams(text)));
        int[] all = {page.length(), kept.size(), keptEver, droppedEver, askedEver, weight, bound, grams.size()};
        return what < 0 || what > 7 ? OUTSIDE : all[what];
    }

    long digest() {
        List<Long> numbers = new ArrayList<>();
        for (int i = 0; i < kept.size(); i++) {
            for (int what = 0; what <= 5; what++) {
                numbers.add((long) segment(i, what));
            }
        }
        for (int a = 0; a < kept.size(); a++) {
            for (int b = a + 1; b < kept.size(); b++) {
                for (int what = 0; what <= 4; what++) {
                    numbers.add((long) two(a, b, what));
                }
            }
        }
        if (question != null) {
            for (int what = 0; what <= 9; what++) {
                numbers.add((long) question(what));
            }
            for (int i = 0; i < kept.size(); i++) {
                for (int what = 0; what <= 9; what++) {
                    numbers.add((long) near(i, what));
                }
            }
            ranks().forEach(number -> numbers.add((long) number));
        }
        page.chars().forEach(code -> numbers.add((long) code));
        for (int what = 0; what <= 7; what++) {
            numbers.add((long) count(what));
        }
        return Check.fold(numbers);
    }

    private boolean isUnknown(int segment) {
        return segment < 0 || segment >= kept.size();
    }

    private boolean isUnknownSign(int segment, int sign) {
        return isUnknown(segment) || sign < 0 || sign >= signs(kept.get(segment)).length;
    }

    private static String[] signs(String text) {
        return text.split(" ");
    }

    private static boolean isTag(String sign) {
        return sign.startsWith("[");
    }

    private int cost(String sign) {
        return isTag(sign) ? weight : 10;
    }

    private int numberOf(String text, int what) {
        String[] signs = signs(text);
        int tags = (int) Arrays.stream(signs).filter(PlainModel::isTag).count();
        int cost = Arrays.stream(signs).mapToInt(this::cost).sum();
        return new int[] {signs.length, signs.length - tags, tags, grams(text).size(), cost}[what];
    }

    private static List<String> grams(String text) {
        List<String> grams = new ArrayList<>();
        for (String sign : signs(text)) {
            String edged = "^" + sign + "$";
            for (int i = 0; i + 2 <= edged.length() && !isTag(sign); i++) {
                grams.add(edged.substring(i, i + 2));
            }
        }
        return grams;
    }

    private static int shared(String one, String other) {
        List<String> left = grams(other);
        int shared = 0;
        for (String gram : grams(one)) {
            shared += left.remove(gram) ? 1 : 0;
        }
        return shared;
    }

    private static int roundedUp(int dividend, int divisor) {
        int quotient = dividend / divisor;
        return quotient * divisor == dividend ? quotient : quotient + 1;
    }

    private static int alike(String one, String other) {
        int longer = Math.max(one.length(), other.length());
        return roundedUp(10 * edits(one, other, new HashMap<>()), longer);
    }

    private static int edits(String one, String other, Map<String, Integer> known) {
        if (one.isEmpty() || other.isEmpty()) {
            return one.length() + other.length();
        }
        String key = one + "," + other;
        Integer old = known.get(key);
        if (old != null) {
            return old;
        }
        int left = edits(one.substring(1), other, known) + 1;
        int put = edits(one, other.substring(1), known) + 1;
        int placed = edits(one.substring(1), other.substring(1), known);
        placed += one.charAt(0) == other.charAt(0) ? 0 : 1;
        int least = Math.min(placed, Math.min(left, put));
        known.put(key, least);
        return least;
    }

    private int costOfBoth(String one, String other) {
        if (isTag(one)) {
            return one.equals(other) ? 0 : weight;
        }
        return alike(one, other);
    }

    /** Of all rows of steps the cheapest, of these the least as a text of digits. */
    private Way way(String[] one, String[] other) {
        return way(one, 0, other, 0, new HashMap<>());
    }

    private Way way(String[] one, int i, String[] other, int j, Map<Integer, Way> known) {
        if (i == one.length && j == other.length) {
            return new Way(0, "");
        }
        Way old = known.get(10 * i + j);
        if (old != null) {
            return old;
        }
        List<Way> ways = new ArrayList<>();
        if (j < other.length) {
            Way rest = way(one, i, other, j + 1, known);
            ways.add(new Way(rest.cost() + cost(other[j]), "2" + rest.kinds()));
        }
        if (i < one.length) {
            Way rest = way(one, i + 1, other, j, known);
            ways.add(new Way(rest.cost() + cost(one[i]), "1" + rest.kinds()));
        }
        if (i < one.length && j < other.length && isTag(one[i]) == isTag(other[j])) {
            Way rest = way(one, i + 1, other, j + 1, known);
            ways.add(new Way(rest.cost() + costOfBoth(one[i], other[j]), "0" + rest.kinds()));
        }
        ways.sort(Comparator.comparingInt(Way::cost).thenComparing(Way::kinds));
        known.put(10 * i + j, ways.get(0));
        return ways.get(0);
    }

    private int ofTwo(String one, String other, int what) {
        Way way = way(signs(one), signs(other));
        int all = numberOf(one, 4) + numberOf(other, 4);
        int score = 1000 - roundedUp(1000 * way.cost(), all);
        return new int[] {way.cost(), all, score, shared(one, other), way.kinds().length()}[what];
    }

    /** Of each step its kind, its cost, and both signs. */
    private List<int[]> steps(String text) {
        String[] one = signs(text);
        String[] other = signs(question);
        List<int[]> steps = new ArrayList<>();
        int i = 0;
        int j = 0;
        for (char kind : way(one, other).kinds().toCharArray()) {
            if (kind == '0') {
                steps.add(new int[] {0, costOfBoth(one[i], other[j]), i++, j++});
            } else if (kind == '1') {
                steps.add(new int[] {1, cost(one[i]), i++, NONE});
            } else {
                steps.add(new int[] {2, cost(other[j]), NONE, j++});
            }
        }
        return steps;
    }

    private int ofNear(String text, int what) {
        if (what < 5) {
            return ofTwo(text, question, what);
        }
        int room = (1000 - bound) * ofTwo(text, question, 1) / 1000;
        switch (what) {
            case 5:
                return room;
            case 6:
                int words = Math.abs(numberOf(text, 1) - numberOf(question, 1));
                int tags = Math.abs(numberOf(text, 2) - numberOf(question, 2));
                return 10 * words + weight * tags <= room ? 1 : 0;
            case 7:
                int most = Math.max(grams(text).size(), grams(question).size());
                return 5 * (most - shared(text, question)) <= 12 * room ? 1 : 0;
            case 8:
                return ofTwo(text, question, 2) >= bound ? 1 : 0;
            default:
                return (int) steps(text).stream().filter(step -> step[1] > 0 && isOfTag(text, step)).count();
        }
    }

    private boolean isOfTag(String text, int[] step) {
        return isTag(step[2] == NONE ? signs(question)[step[3]] : signs(text)[step[2]]);
    }

    private List<Integer> ranks() {
        List<Integer> ranks = new ArrayList<>();
        for (int i = 0; i < kept.size(); i++) {
            if (near(i, 8) == 1) {
                ranks.add(i);
            }
        }
        ranks.sort(Comparator.comparingInt((Integer i) -> -near(i, 2)).thenComparingInt(i -> near(i, 9))
                .thenComparingInt(i -> i));
        return ranks;
    }

    private Set<Integer> coveredSigns() {
        Set<Integer> covered = new HashSet<>();
        for (String text : kept) {
            if (ofNear(text, 8) == 1) {
                steps(text).stream().filter(step -> step[0] == 0 && step[1] == 0).forEach(step -> covered.add(step[3]));
            }
        }
        return covered;
    }
}
