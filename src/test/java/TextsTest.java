/** Promises 1 to 9: a new object, and the calls on texts. */
public final class TextsTest {
    private static final int[] WRONG_CODES = {Integer.MIN_VALUE, -1, 0, 31, 127, 255, Integer.MAX_VALUE};
    private static final Check CHECK = new Check("TextsTest");

    public static void main(String[] args) {
        newObject();
        letter();
        blank();
        fault();
        faultOfLongTexts();
        keep();
        keepWhatIsNone();
        keepWhenFull();
        drop();
        dropOfWrongNumbers();
        ask();
        weight();
        bound();
        CHECK.end();
    }

    private static void due(String call, long got, long want) {
        CHECK.due(call, got, want);
    }

    private static void newObject() {
        NearPhrases x = new NearPhrases();
        int[] counts = {0, 0, 0, 0, 0, 5, 700, 0};
        for (int what = 0; what < counts.length; what++) {
            due("new: count(" + what + ")", x.count(what), counts[what]);
        }
        due("new: segment(0, 0)", x.segment(0, 0), NearPhrases.UNKNOWN);
        due("new: question(0)", x.question(0), NearPhrases.STATE);
        due("new: fault()", x.fault(), 0);
        due("NONE", NearPhrases.NONE, -1);
        due("UNKNOWN", NearPhrases.UNKNOWN, -1001);
        due("OUTSIDE", NearPhrases.OUTSIDE, -1002);
        due("STATE", NearPhrases.STATE, -1003);
        due("FULL", NearPhrases.FULL, -1004);
    }

    private static void letter() {
        NearPhrases x = new NearPhrases();
        for (int code : WRONG_CODES) {
            due("letter(" + code + ")", x.letter(code), NearPhrases.OUTSIDE);
        }
        due("count(0) behind wrong letters", x.count(0), 0);
        due("letter(32)", x.letter(32), 1);
        due("letter(126)", x.letter(126), 2);
        for (int n = 3; n <= 48; n++) {
            due("letter as number " + n, x.letter('a'), n);
        }
        due("letter 49", x.letter('a'), NearPhrases.FULL);
        due("wrong letter 49", x.letter(31), NearPhrases.OUTSIDE);
        due("count(0) of a full page", x.count(0), 48);
    }

    private static void blank() {
        NearPhrases x = new NearPhrases();
        due("blank() of nothing", x.blank(), 0);
        Check.type(x, "a?b");
        due("blank() of three", x.blank(), 3);
        due("count(0) behind blank()", x.count(0), 0);
        due("blank() again", x.blank(), 0);
        due("letter behind blank()", x.letter('a'), 1);
    }

    private static void faultOf(String text, int want) {
        NearPhrases x = new NearPhrases();
        Check.type(x, text);
        due("fault() of \"" + text + "\"", x.fault(), want);
        due("count(0) behind fault()", x.count(0), text.length());
    }

    private static void fault() {
        faultOf("", 0);
        faultOf(" ", 0);
        faultOf(" a", 0);
        faultOf("A", 0);
        faultOf("`", 0);
        faultOf("{", 0);
        faultOf("1", 0);
        faultOf("]", 0);
        faultOf("a", 1);
        faultOf("z", 1);
        faultOf("a ", 2);
        faultOf("a  b", 2);
        faultOf("a[1]", 1);
        faultOf("a]", 1);
        faultOf("a1", 1);
        faultOf("[", 1);
        faultOf("[]", 1);
        faultOf("[0]", 1);
        faultOf("[:]", 1);
        faultOf("[a]", 1);
        faultOf("[9", 2);
        faultOf("[1 ]", 2);
        faultOf("[12]", 2);
        faultOf("[9]", 3);
        faultOf("[9]a", 3);
        faultOf("[9][1]", 3);
        faultOf("[9] ", 4);
        faultOf("[9] [", 5);
        faultOf("[9] a[", 5);
        faultOf("ab CD", 3);
    }

    private static void faultOfLongTexts() {
        faultOf("abcdefghijkl", 12);
        faultOf("abcdefghijklm", 12);
        faultOf("abcdefghijkl m", 14);
        faultOf("x abcdefghijklm", 14);
        faultOf("a b c d e f g h", 15);
        faultOf("a b c d e f g hi", 16);
        faultOf("a b c d e f g h ", 15);
        faultOf("a b c d e f g h i", 15);
        faultOf("a b c d e f g ", 14);
        faultOf("[1] [2] [3] [4] [5] [6] [7] [8]", 31);
        faultOf("[1] [2] [3] [4] [5] [6] [7] [8] ", 31);
        faultOf("abcdefghijkl abcdefghijkl abcdefghijkl abcdefgh ", 48);
        faultOf("abcdefghijkl abcdefghijkl abcdefghijkl abcdefg [", 48);
    }

    private static void keep() {
        NearPhrases x = new NearPhrases();
        due("keep of the first", Check.keep(x, "the cat"), 0);
        due("page behind keep()", x.count(0), 0);
        due("keep of the second", Check.keep(x, "the cat [1]"), 1);
        due("keep of the same", Check.keep(x, "the cat"), 0);
        due("page behind keep() of the same", x.count(0), 0);
        due("kept", x.count(1), 2);
        due("told", x.count(2), 3);
        due("segment(0, 5)", x.segment(0, 5), 2);
        due("segment(1, 5)", x.segment(1, 5), 1);
        due("other order", Check.keep(x, "cat the"), 2);
        due("other digit", Check.keep(x, "the cat [2]"), 3);
        due("shorter word", Check.keep(x, "the ca"), 4);
        due("longer word", Check.keep(x, "the cats"), 5);
        due("other parting", Check.keep(x, "thecat"), 6);
        due("fewer signs", Check.keep(x, "the"), 7);
    }

    private static void keepWhatIsNone() {
        for (String text : new String[] {"", " ", "a ", "[", "[1", "[1] ", "a  b", "abcdefghijklm", "a?",
                "a b c d e f g h i", "[0]", "A"}) {
            NearPhrases x = Check.with("a");
            Check.type(x, text);
            due("keep() of \"" + text + "\"", x.keep(), NearPhrases.STATE);
            due("ask() of \"" + text + "\"", x.ask(), NearPhrases.STATE);
            due("page behind the refusals", x.count(0), text.length());
            due("kept behind the refusals", x.count(1), 1);
            due("told behind the refusals", x.count(2), 1);
            due("asked behind the refusals", x.count(4), 0);
        }
    }

    private static void keepWhenFull() {
        NearPhrases x = new NearPhrases();
        for (int i = 0; i < 12; i++) {
            due("keep " + i, Check.keep(x, "" + (char) ('a' + i)), i);
        }
        Check.type(x, "m");
        due("keep 12", x.keep(), NearPhrases.FULL);
        due("page behind FULL", x.count(0), 1);
        due("told behind FULL", x.count(2), 12);
        due("kept behind FULL", x.count(1), 12);
        due("grams behind FULL", x.count(7), 24);
        x.letter(' ');
        due("STATE ahead of FULL", x.keep(), NearPhrases.STATE);
        x.blank();
        due("keep of the same when full", Check.keep(x, "l"), 11);
        due("told then", x.segment(11, 5), 2);
        due("told ever then", x.count(2), 13);
        due("drop(3)", x.drop(3), 11);
        due("keep behind drop", Check.keep(x, "m"), 11);
        due("its letter", x.sign(11, 0, 2), 'm');
        due("the one ahead", x.sign(10, 0, 2), 'l');
        due("the one at 3", x.sign(3, 0, 2), 'e');
    }

    private static void drop() {
        NearPhrases x = Check.with("one", "two", "three", "two");
        due("drop(1)", x.drop(1), 2);
        due("sign(0, 0, 2)", x.sign(0, 0, 2), 'o');
        due("sign(1, 0, 0)", x.sign(1, 0, 0), 5);
        due("segment(2, 0)", x.segment(2, 0), NearPhrases.UNKNOWN);
        due("count(1)", x.count(1), 2);
        due("count(2)", x.count(2), 4);
        due("count(3)", x.count(3), 1);
        due("kept anew", Check.keep(x, "two"), 2);
        due("told anew", x.segment(2, 5), 1);
        due("drop(2)", x.drop(2), 2);
        due("drop(0)", x.drop(0), 1);
        due("drop(0) again", x.drop(0), 0);
        due("drop(0) of nothing", x.drop(0), NearPhrases.UNKNOWN);
        due("count(3) at last", x.count(3), 4);
        due("count(7) at last", x.count(7), 0);
    }

    private static void dropOfWrongNumbers() {
        NearPhrases x = Check.with("one", "two");
        for (int number : new int[] {-1, 2, 12, Integer.MIN_VALUE, Integer.MAX_VALUE}) {
            due("drop(" + number + ")", x.drop(number), NearPhrases.UNKNOWN);
        }
        due("count(1)", x.count(1), 2);
        due("count(3)", x.count(3), 0);
    }

    private static void ask() {
        NearPhrases x = new NearPhrases();
        due("ask of two signs", Check.ask(x, "a [2]"), 2);
        due("page behind ask()", x.count(0), 0);
        due("count(4)", x.count(4), 1);
        due("question(2)", x.question(2), 1);
        due("ask of another", Check.ask(x, "a b c"), 3);
        due("question(2) then", x.question(2), 0);
        due("count(4) then", x.count(4), 2);
        due("kept", x.count(1), 0);
        Check.type(x, "[1");
        due("ask of none", x.ask(), NearPhrases.STATE);
        due("question(0) stays", x.question(0), 3);
    }

    private static void weight() {
        NearPhrases x = Check.with("a [1] [2]");
        for (int v : new int[] {0, 21, -5, Integer.MIN_VALUE, Integer.MAX_VALUE}) {
            due("weight(" + v + ")", x.weight(v), NearPhrases.OUTSIDE);
        }
        due("weight(1)", x.weight(1), 5);
        due("cost at 1", x.segment(0, 4), 12);
        due("weight(20)", x.weight(20), 1);
        due("cost at 20", x.segment(0, 4), 50);
        due("count(5)", x.count(5), 20);
    }

    private static void bound() {
        NearPhrases x = new NearPhrases();
        for (int v : new int[] {-1, 1001, Integer.MIN_VALUE, Integer.MAX_VALUE}) {
            due("bound(" + v + ")", x.bound(v), NearPhrases.OUTSIDE);
        }
        due("bound(0)", x.bound(0), 700);
        due("bound(1000)", x.bound(1000), 0);
        due("count(6)", x.count(6), 1000);
        due("bound(1)", x.bound(1), 1000);
    }
}
