/**
 * Remembered sentences and how near they are to a question. The document
 * (DOC.md) says what every call answers; all rows are made with the object and
 * used again, so that no later call makes anything.
 */
public final class NearPhrases {
    public static final int NONE = -1, UNKNOWN = -1001, OUTSIDE = -1002, STATE = -1003, FULL = -1004;

    private static final int PAGE_LIMIT = 48;
    private static final int KEPT_LIMIT = 12;
    private static final int SIGN_LIMIT = 8;
    private static final int WORD_LIMIT = 12;
    private static final int STEP_LIMIT = 2 * SIGN_LIMIT;
    private static final int WEIGHT_LIMIT = 20;
    private static final int WHOLE = 1000;
    private static final int WORD_COST = 10;

    private static final int BOTH = 0;
    private static final int OUT = 1;
    private static final int IN = 2;

    /** What no row of steps can cost: stands where a word faces a tag. */
    private static final int NEVER = 1000000;

    /** "^" and "$" have the number 0 in a gram, "a" to "z" have 1 to 26. */
    private static final int EDGE = 0;
    private static final int GRAM_BASE = 27;
    private static final int GRAM_KINDS = GRAM_BASE * GRAM_BASE;

    private static final int SEGMENT_WHATS = 6;
    private static final int SIGN_WHATS = 14;
    private static final int TWO_WHATS = 5;
    private static final int NEAR_WHATS = 10;
    private static final int STEP_WHATS = 4;
    private static final int QUESTION_WHATS = 10;
    private static final int COUNT_WHATS = 8;

    private final Page page;
    /** The kept ones in order; behind them spare ones, of which the next is read into. */
    private final Segment[] shelf;
    private final Segment asked;
    private final GramIndex index;
    private final Aligner aligner;
    private final Comparison pair;
    private final Findings findings;
    private int keptNow;
    private int tagCost;
    private int leastScore;
    private int keptEver;
    private int droppedEver;
    private int askedEver;
    private boolean findingsAreStale;

    public NearPhrases() {
        page = new Page();
        shelf = new Segment[KEPT_LIMIT + 1];
        for (int i = 0; i < shelf.length; i++) {
            shelf[i] = new Segment();
        }
        asked = new Segment();
        index = new GramIndex();
        aligner = new Aligner();
        pair = new Comparison();
        findings = new Findings();
        tagCost = 5;
        leastScore = 700;
        findingsAreStale = true;
    }

    // ---- texts

    public int letter(int code) {
        if (code < 32 || code > 126) {
            return OUTSIDE;
        }
        if (page.isFull()) {
            return FULL;
        }
        page.append(code);
        return page.size;
    }

    public int blank() {
        int had = page.size;
        page.clear();
        return had;
    }

    public int fault() {
        return page.firstFault();
    }

    public int keep() {
        if (!page.isSegment()) {
            return STATE;
        }
        Segment spare = shelf[keptNow];
        spare.read(page);
        int number = numberOfSame(spare);
        if (number == keptNow) {
            if (keptNow >= KEPT_LIMIT) {
                return FULL;
            }
            index.add(spare);
            keptNow++;
            findingsAreStale = true;
        }
        shelf[number].timesTold++;
        keptEver++;
        page.clear();
        return number;
    }

    public int drop(int segment) {
        if (!isKept(segment)) {
            return UNKNOWN;
        }
        Segment dropped = shelf[segment];
        index.remove(dropped);
        keptNow--;
        for (int i = segment; i < keptNow; i++) {
            shelf[i] = shelf[i + 1];
        }
        shelf[keptNow] = dropped;
        droppedEver++;
        findingsAreStale = true;
        return keptNow;
    }

    public int ask() {
        if (!page.isSegment()) {
            return STATE;
        }
        asked.read(page);
        page.clear();
        askedEver++;
        findingsAreStale = true;
        return asked.signs;
    }

    public int weight(int v) {
        if (v < 1 || v > WEIGHT_LIMIT) {
            return OUTSIDE;
        }
        int was = tagCost;
        tagCost = v;
        findingsAreStale = true;
        return was;
    }

    public int bound(int v) {
        if (v < 0 || v > WHOLE) {
            return OUTSIDE;
        }
        int was = leastScore;
        leastScore = v;
        findingsAreStale = true;
        return was;
    }

    // ---- segments

    public int segment(int segment, int what) {
        if (!isKept(segment)) {
            return UNKNOWN;
        }
        if (!isWithin(what, SEGMENT_WHATS)) {
            return OUTSIDE;
        }
        return shelf[segment].tell(what, tagCost);
    }

    public int sign(int segment, int sign, int what) {
        if (!isSignOfKept(segment, sign)) {
            return UNKNOWN;
        }
        if (!isWithin(what, SIGN_WHATS)) {
            return OUTSIDE;
        }
        return shelf[segment].row[sign].tell(what);
    }

    public int alike(int a, int i, int b, int j) {
        if (!isSignOfKept(a, i) || !isSignOfKept(b, j)) {
            return UNKNOWN;
        }
        Sign one = shelf[a].row[i];
        Sign other = shelf[b].row[j];
        if (!one.isWord() || !other.isWord()) {
            return NONE;
        }
        return aligner.alikeOfWords(one, other);
    }

    public int two(int a, int b, int what) {
        if (!isKept(a) || !isKept(b)) {
            return UNKNOWN;
        }
        if (!isWithin(what, TWO_WHATS)) {
            return OUTSIDE;
        }
        aligner.compare(shelf[a], shelf[b], tagCost, pair);
        return pair.tell(what);
    }

    public int gram(int one, int other) {
        if (one != '^' && !isSmallLetter(one)) {
            return OUTSIDE;
        }
        if (other != '$' && !isSmallLetter(other)) {
            return OUTSIDE;
        }
        if (one == '^' && other == '$') {
            return OUTSIDE;
        }
        int first = one == '^' ? EDGE : letterNumber(one);
        int second = other == '$' ? EDGE : letterNumber(other);
        return index.holdersOf(gramNumber(first, second));
    }

    // ---- the question

    public int near(int segment, int what) {
        if (!isKept(segment)) {
            return UNKNOWN;
        }
        if (!isWithin(what, NEAR_WHATS)) {
            return OUTSIDE;
        }
        if (!hasQuestion()) {
            return STATE;
        }
        refreshFindings();
        return findings.rows[segment].tell(what);
    }

    public int step(int segment, int step, int what) {
        if (!isKept(segment)) {
            return UNKNOWN;
        }
        if (!isWithin(what, STEP_WHATS)) {
            return OUTSIDE;
        }
        if (!hasQuestion()) {
            return STATE;
        }
        refreshFindings();
        Comparison comparison = findings.rows[segment];
        if (!isWithin(step, comparison.steps)) {
            return UNKNOWN;
        }
        return comparison.tellStep(step, what);
    }

    public int rank(int rank) {
        if (!hasQuestion()) {
            return STATE;
        }
        refreshFindings();
        if (!isWithin(rank, findings.matches)) {
            return UNKNOWN;
        }
        return findings.ranks[rank];
    }

    public int question(int what) {
        if (!isWithin(what, QUESTION_WHATS)) {
            return OUTSIDE;
        }
        if (!hasQuestion()) {
            return STATE;
        }
        refreshFindings();
        return tellQuestion(what);
    }

    public int covered(int sign) {
        if (!hasQuestion()) {
            return STATE;
        }
        if (!isWithin(sign, asked.signs)) {
            return UNKNOWN;
        }
        refreshFindings();
        return findings.covers[sign] ? 1 : 0;
    }

    // ---- what is told of all

    public int count(int what) {
        switch (what) {
            case 0:
                return page.size;
            case 1:
                return keptNow;
            case 2:
                return keptEver;
            case 3:
                return droppedEver;
            case 4:
                return askedEver;
            case 5:
                return tagCost;
            case 6:
                return leastScore;
            case 7:
                return index.kinds;
            default:
                return OUTSIDE;
        }
    }

    public long digest() {
        long h = 1637;
        h = mixSegments(h);
        h = mixPairs(h);
        if (hasQuestion()) {
            refreshFindings();
            h = mixFindings(h);
        }
        for (int i = 0; i < page.size; i++) {
            h = mix(h, page.codes[i]);
        }
        for (int what = 0; what < COUNT_WHATS; what++) {
            h = mix(h, count(what));
        }
        return h;
    }

    private long mixSegments(long start) {
        long h = start;
        for (int i = 0; i < keptNow; i++) {
            for (int what = 0; what < SEGMENT_WHATS; what++) {
                h = mix(h, shelf[i].tell(what, tagCost));
            }
        }
        return h;
    }

    private long mixPairs(long start) {
        long h = start;
        for (int a = 0; a < keptNow; a++) {
            for (int b = a + 1; b < keptNow; b++) {
                // Not by two(): it would compare the same pair anew for each number.
                aligner.compare(shelf[a], shelf[b], tagCost, pair);
                for (int what = 0; what < TWO_WHATS; what++) {
                    h = mix(h, pair.tell(what));
                }
            }
        }
        return h;
    }

    private long mixFindings(long start) {
        long h = start;
        for (int what = 0; what < QUESTION_WHATS; what++) {
            h = mix(h, tellQuestion(what));
        }
        for (int i = 0; i < keptNow; i++) {
            for (int what = 0; what < NEAR_WHATS; what++) {
                h = mix(h, findings.rows[i].tell(what));
            }
        }
        for (int r = 0; r < findings.matches; r++) {
            h = mix(h, findings.ranks[r]);
        }
        return h;
    }

    private static long mix(long h, int number) {
        return 31L * h + number;
    }

    private boolean isKept(int segment) {
        return isWithin(segment, keptNow);
    }

    private boolean isSignOfKept(int segment, int sign) {
        return isKept(segment) && isWithin(sign, shelf[segment].signs);
    }

    private boolean hasQuestion() {
        return askedEver > 0;
    }

    /** The number of the kept one of the same signs; how many are kept, if there is none. */
    private int numberOfSame(Segment sought) {
        for (int i = 0; i < keptNow; i++) {
            if (shelf[i].isSameAs(sought)) {
                return i;
            }
        }
        return keptNow;
    }

    /** The question's own numbers, then those of what it finds, which are fresh here. */
    private int tellQuestion(int what) {
        return what < 5 ? asked.tell(what, tagCost) : findings.tell(what);
    }

    private void refreshFindings() {
        if (!findingsAreStale) {
            return;
        }
        for (int i = 0; i < keptNow; i++) {
            Comparison comparison = findings.rows[i];
            aligner.compare(shelf[i], asked, tagCost, comparison);
            comparison.judge(shelf[i], asked, tagCost, leastScore);
        }
        findings.gather(keptNow);
        findingsAreStale = false;
    }

    private static boolean isWithin(int number, int end) {
        return number >= 0 && number < end;
    }

    private static boolean isSmallLetter(int code) {
        return code >= 'a' && code <= 'z';
    }

    private static int letterNumber(int code) {
        return code - 'a' + 1;
    }

    private static int gramNumber(int first, int second) {
        return first * GRAM_BASE + second;
    }

    /** The letters that have come, and whether they read as a segment. */
    private static final class Page {
        private static final int AHEAD = 0;
        private static final int IN_WORD = 1;
        private static final int OPENED = 2;
        private static final int NUMBERED = 3;
        private static final int CLOSED = 4;

        private final int[] codes;
        private int size;
        private int stage;
        private int signsBegun;
        private int lettersOfWord;

        Page() {
            codes = new int[PAGE_LIMIT];
        }

        boolean isFull() {
            return size >= codes.length;
        }

        void append(int code) {
            if (size < codes.length) {
                codes[size] = code;
                size++;
            }
        }

        void clear() {
            size = 0;
        }

        /** The size, if there is no fault; the stage is then that behind the last letter. */
        int firstFault() {
            stage = AHEAD;
            signsBegun = 0;
            lettersOfWord = 0;
            for (int i = 0; i < size; i++) {
                if (!goesOn(codes[i])) {
                    return i;
                }
            }
            return size;
        }

        boolean isSegment() {
            return firstFault() == size && (stage == IN_WORD || stage == CLOSED);
        }

        private boolean goesOn(int code) {
            switch (stage) {
                case AHEAD:
                    return beginsSign(code);
                case IN_WORD:
                    return isSmallLetter(code) ? lengthensWord() : endsSign(code);
                case OPENED:
                    stage = NUMBERED;
                    return code >= '1' && code <= '9';
                case NUMBERED:
                    stage = CLOSED;
                    return code == ']';
                default:
                    return endsSign(code);
            }
        }

        private boolean beginsSign(int code) {
            signsBegun++;
            lettersOfWord = 1;
            stage = code == '[' ? OPENED : IN_WORD;
            return code == '[' || isSmallLetter(code);
        }

        private boolean lengthensWord() {
            lettersOfWord++;
            return lettersOfWord <= WORD_LIMIT;
        }

        /** A space is right only where another sign may follow it. */
        private boolean endsSign(int code) {
            stage = AHEAD;
            return code == ' ' && signsBegun < SIGN_LIMIT;
        }
    }

    /** A word, or a tag: a tag has no letters. */
    private static final class Sign {
        private final int[] letters;
        private int length;
        private int digit;

        Sign() {
            letters = new int[WORD_LIMIT];
        }

        void clear() {
            length = 0;
            digit = 0;
        }

        void take(int code) {
            if (code >= '1' && code <= '9') {
                digit = code - '0';
            } else if (isSmallLetter(code) && length < letters.length) {
                letters[length] = code;
                length++;
            }
        }

        boolean isWord() {
            return length > 0;
        }

        int cost(int tagCost) {
            return isWord() ? WORD_COST : tagCost;
        }

        boolean isSameAs(Sign other) {
            if (length != other.length || digit != other.digit) {
                return false;
            }
            for (int i = 0; i < length; i++) {
                if (letters[i] != other.letters[i]) {
                    return false;
                }
            }
            return true;
        }

        int tell(int what) {
            if (what == 0) {
                return length;
            }
            if (what == 1) {
                return digit;
            }
            return isWithin(what - 2, length) ? letters[what - 2] : NONE;
        }
    }

    /** One to eight signs, with their grams from the least number to the greatest. */
    private static final class Segment {
        private final Sign[] row;
        private final int[] grams;
        private int signs;
        private int words;
        private int gramCount;
        private int timesTold;

        Segment() {
            row = new Sign[SIGN_LIMIT];
            for (int i = 0; i < row.length; i++) {
                row[i] = new Sign();
            }
            // A word has one gram more than letters.
            grams = new int[PAGE_LIMIT + SIGN_LIMIT];
        }

        /** The page is a segment: each space has another sign behind it. */
        void read(Page page) {
            row[0].clear();
            int at = 0;
            for (int i = 0; i < page.size; i++) {
                int code = page.codes[i];
                if (code == ' ' && at + 1 < row.length) {
                    at++;
                    row[at].clear();
                } else {
                    row[at].take(code);
                }
            }
            signs = at + 1;
            words = 0;
            gramCount = 0;
            timesTold = 0;
            for (int i = 0; i < signs; i++) {
                if (row[i].isWord()) {
                    words++;
                    addGramsOf(row[i]);
                }
            }
        }

        int tags() {
            return signs - words;
        }

        int cost(int tagCost) {
            return WORD_COST * words + tagCost * tags();
        }

        boolean isSameAs(Segment other) {
            if (signs != other.signs) {
                return false;
            }
            for (int i = 0; i < signs; i++) {
                if (!row[i].isSameAs(other.row[i])) {
                    return false;
                }
            }
            return true;
        }

        int tell(int what, int tagCost) {
            switch (what) {
                case 0:
                    return signs;
                case 1:
                    return words;
                case 2:
                    return tags();
                case 3:
                    return gramCount;
                case 4:
                    return cost(tagCost);
                case 5:
                    return timesTold;
                default:
                    return OUTSIDE;
            }
        }

        /** Both rows of grams are in order, so one walk over both finds the like ones. */
        int sharedWith(Segment other) {
            int shared = 0;
            int i = 0;
            int j = 0;
            while (i < gramCount && j < other.gramCount) {
                int mine = grams[i];
                int its = other.grams[j];
                if (mine == its) {
                    shared++;
                }
                if (mine <= its) {
                    i++;
                }
                if (its <= mine) {
                    j++;
                }
            }
            return shared;
        }

        boolean isFirstOfItsKind(int place) {
            return place == 0 || grams[place] != grams[place - 1];
        }

        private void addGramsOf(Sign word) {
            int before = EDGE;
            for (int i = 0; i < word.length; i++) {
                int here = letterNumber(word.letters[i]);
                insertGram(gramNumber(before, here));
                before = here;
            }
            insertGram(gramNumber(before, EDGE));
        }

        private void insertGram(int number) {
            if (gramCount >= grams.length) {
                return;
            }
            int at = gramCount;
            while (at > 0 && grams[at - 1] > number) {
                grams[at] = grams[at - 1];
                at--;
            }
            grams[at] = number;
            gramCount++;
        }
    }

    /** In how many kept segments each gram is, and how many grams are in some. */
    private static final class GramIndex {
        private final int[] holders;
        private int kinds;

        GramIndex() {
            holders = new int[GRAM_KINDS];
        }

        int holdersOf(int number) {
            return isWithin(number, holders.length) ? holders[number] : 0;
        }

        void add(Segment segment) {
            for (int i = 0; i < segment.gramCount; i++) {
                int number = segment.grams[i];
                if (segment.isFirstOfItsKind(i) && isWithin(number, holders.length)) {
                    if (holders[number] == 0) {
                        kinds++;
                    }
                    holders[number]++;
                }
            }
        }

        void remove(Segment segment) {
            for (int i = 0; i < segment.gramCount; i++) {
                int number = segment.grams[i];
                if (segment.isFirstOfItsKind(i) && isWithin(number, holders.length)) {
                    holders[number]--;
                    if (holders[number] == 0) {
                        kinds--;
                    }
                }
            }
        }
    }

    /** What is told of two segments, the one and the other one, with their steps. */
    private static final class Comparison {
        private final int[] kindOf;
        private final int[] costOf;
        private final int[] oneOf;
        private final int[] otherOf;
        private int far;
        private int all;
        private int shared;
        private int steps;
        private int tagSteps;
        private int score;
        private int room;
        private boolean canByLengths;
        private boolean canByGrams;
        private boolean isMatch;

        Comparison() {
            kindOf = new int[STEP_LIMIT];
            costOf = new int[STEP_LIMIT];
            oneOf = new int[STEP_LIMIT];
            otherOf = new int[STEP_LIMIT];
        }

        void clearSteps() {
            steps = 0;
            tagSteps = 0;
        }

        void addStep(int kind, int cost, int one, int other, boolean ofTag) {
            if (steps >= kindOf.length) {
                return;
            }
            kindOf[steps] = kind;
            costOf[steps] = cost;
            oneOf[steps] = one;
            otherOf[steps] = other;
            steps++;
            if (ofTag && cost > 0) {
                tagSteps++;
            }
        }

        void setScore() {
            score = all > 0 ? WHOLE - (WHOLE * far + all - 1) / all : WHOLE;
        }

        /** Told for the question alone: two() asks for nothing that needs a bound. */
        void judge(Segment one, Segment other, int tagCost, int leastScore) {
            room = (WHOLE - leastScore) * all / WHOLE;
            int wordsMore = Math.abs(one.words - other.words);
            int tagsMore = Math.abs(one.tags() - other.tags());
            canByLengths = WORD_COST * wordsMore + tagCost * tagsMore <= room;
            int most = Math.max(one.gramCount, other.gramCount);
            canByGrams = 5 * (most - shared) <= 12 * room;
            isMatch = score >= leastScore;
        }

        boolean ranksAheadOf(Comparison other) {
            if (score != other.score) {
                return score > other.score;
            }
            return tagSteps < other.tagSteps;
        }

        int tell(int what) {
            switch (what) {
                case 0:
                    return far;
                case 1:
                    return all;
                case 2:
                    return score;
                case 3:
                    return shared;
                case 4:
                    return steps;
                case 5:
                    return room;
                case 6:
                    return canByLengths ? 1 : 0;
                case 7:
                    return canByGrams ? 1 : 0;
                case 8:
                    return isMatch ? 1 : 0;
                case 9:
                    return tagSteps;
                default:
                    return OUTSIDE;
            }
        }

        int tellStep(int place, int what) {
            if (!isWithin(place, steps)) {
                return UNKNOWN;
            }
            switch (what) {
                case 0:
                    return kindOf[place];
                case 1:
                    return costOf[place];
                case 2:
                    return oneOf[place];
                case 3:
                    return otherOf[place];
                default:
                    return OUTSIDE;
            }
        }
    }

    /** Finds the least cost of making one segment another one, and the steps of it. */
    private static final class Aligner {
        /** What BOTH costs for a sign of the one and a sign of the other one. */
        private final int[][] both;
        /** The least cost from a sign of each on, till both are at their ends. */
        private final int[][] rest;
        private final int[] edits;

        Aligner() {
            both = new int[SIGN_LIMIT][SIGN_LIMIT];
            rest = new int[SIGN_LIMIT + 1][SIGN_LIMIT + 1];
            edits = new int[WORD_LIMIT + 1];
        }

        void compare(Segment one, Segment other, int tagCost, Comparison into) {
            fillBoth(one, other, tagCost);
            fillRest(one, other, tagCost);
            into.far = rest[0][0];
            into.all = one.cost(tagCost) + other.cost(tagCost);
            into.shared = one.sharedWith(other);
            into.setScore();
            walkSteps(one, other, tagCost, into);
        }

        int alikeOfWords(Sign one, Sign other) {
            int longer = Math.max(one.length, other.length);
            if (longer < 1) {
                return 0;
            }
            return (10 * leastEdits(one, other) + longer - 1) / longer;
        }

        private void fillBoth(Segment one, Segment other, int tagCost) {
            for (int i = 0; i < one.signs; i++) {
                for (int j = 0; j < other.signs; j++) {
                    both[i][j] = costOfBoth(one.row[i], other.row[j], tagCost);
                }
            }
        }

        private int costOfBoth(Sign one, Sign other, int tagCost) {
            if (one.isWord() != other.isWord()) {
                return NEVER;
            }
            if (one.isWord()) {
                return alikeOfWords(one, other);
            }
            return one.digit == other.digit ? 0 : tagCost;
        }

        private void fillRest(Segment one, Segment other, int tagCost) {
            int n = one.signs;
            int m = other.signs;
            rest[n][m] = 0;
            for (int i = n - 1; i >= 0; i--) {
                rest[i][m] = rest[i + 1][m] + one.row[i].cost(tagCost);
            }
            for (int j = m - 1; j >= 0; j--) {
                rest[n][j] = rest[n][j + 1] + other.row[j].cost(tagCost);
            }
            for (int i = n - 1; i >= 0; i--) {
                int outCost = one.row[i].cost(tagCost);
                for (int j = m - 1; j >= 0; j--) {
                    int least = both[i][j] + rest[i + 1][j + 1];
                    least = Math.min(least, outCost + rest[i + 1][j]);
                    least = Math.min(least, other.row[j].cost(tagCost) + rest[i][j + 1]);
                    rest[i][j] = least;
                }
            }
        }

        /** From the front on, the least step that still reaches the least cost. */
        private void walkSteps(Segment one, Segment other, int tagCost, Comparison into) {
            into.clearSteps();
            int i = 0;
            int j = 0;
            for (int walked = 0; walked < STEP_LIMIT; walked++) {
                boolean oneGoesOn = i < one.signs;
                boolean otherGoesOn = j < other.signs;
                if (oneGoesOn && otherGoesOn && rest[i][j] == both[i][j] + rest[i + 1][j + 1]) {
                    into.addStep(BOTH, both[i][j], i, j, !one.row[i].isWord());
                    i++;
                    j++;
                } else if (oneGoesOn && rest[i][j] == one.row[i].cost(tagCost) + rest[i + 1][j]) {
                    into.addStep(OUT, one.row[i].cost(tagCost), i, NONE, !one.row[i].isWord());
                    i++;
                } else if (otherGoesOn) {
                    into.addStep(IN, other.row[j].cost(tagCost), NONE, j, !other.row[j].isWord());
                    j++;
                } else {
                    return;
                }
            }
        }

        /** One row is enough: what it held a row earlier is carried along as "corner". */
        private int leastEdits(Sign one, Sign other) {
            for (int j = 0; j <= other.length; j++) {
                edits[j] = j;
            }
            for (int i = 0; i < one.length; i++) {
                int corner = edits[0];
                edits[0] = i + 1;
                for (int j = 0; j < other.length; j++) {
                    int above = edits[j + 1];
                    int least = one.letters[i] == other.letters[j] ? corner : corner + 1;
                    if (above < least) {
                        least = above + 1;
                    }
                    if (edits[j] < least) {
                        least = edits[j] + 1;
                    }
                    edits[j + 1] = least;
                    corner = above;
                }
            }
            return edits[other.length];
        }
    }

    /** What the question finds: a comparison of each kept segment with it, and their ranks. */
    private static final class Findings {
        private final Comparison[] rows;
        private final int[] ranks;
        private final boolean[] covers;
        private int matches;
        private int byLengths;
        private int byGrams;
        private int byBoth;

        Findings() {
            rows = new Comparison[KEPT_LIMIT];
            for (int i = 0; i < rows.length; i++) {
                rows[i] = new Comparison();
            }
            ranks = new int[KEPT_LIMIT];
            covers = new boolean[SIGN_LIMIT];
        }

        void gather(int kept) {
            matches = 0;
            byLengths = 0;
            byGrams = 0;
            byBoth = 0;
            for (int j = 0; j < covers.length; j++) {
                covers[j] = false;
            }
            for (int i = 0; i < kept && i < rows.length; i++) {
                Comparison row = rows[i];
                byLengths += row.canByLengths ? 1 : 0;
                byGrams += row.canByGrams ? 1 : 0;
                byBoth += row.canByLengths && row.canByGrams ? 1 : 0;
                if (row.isMatch) {
                    insertMatch(i);
                    cover(row);
                }
            }
        }

        int tell(int what) {
            switch (what) {
                case 5:
                    return matches;
                case 6:
                    return byLengths;
                case 7:
                    return byGrams;
                case 8:
                    return byBoth;
                case 9:
                    return countCovered();
                default:
                    return OUTSIDE;
            }
        }

        /** They come by number, so of like ones that which came first stays ahead. */
        private void insertMatch(int number) {
            if (matches >= ranks.length) {
                return;
            }
            int at = matches;
            while (at > 0 && rows[number].ranksAheadOf(rows[ranks[at - 1]])) {
                ranks[at] = ranks[at - 1];
                at--;
            }
            ranks[at] = number;
            matches++;
        }

        private void cover(Comparison row) {
            for (int k = 0; k < row.steps; k++) {
                int sign = row.otherOf[k];
                if (row.kindOf[k] == BOTH && row.costOf[k] == 0 && isWithin(sign, covers.length)) {
                    covers[sign] = true;
                }
            }
        }

        private int countCovered() {
            int covered = 0;
            for (int j = 0; j < covers.length; j++) {
                covered += covers[j] ? 1 : 0;
            }
            return covered;
        }
    }
}
