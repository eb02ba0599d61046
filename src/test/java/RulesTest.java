import java.io.IOException;
import java.lang.reflect.Constructor;
import java.lang.reflect.Field;
import java.lang.reflect.Method;
import java.lang.reflect.Modifier;
import java.nio.file.Files;
import java.nio.file.Path;
import java.util.Arrays;
import java.util.Set;
import java.util.TreeSet;
import java.util.regex.Matcher;
import java.util.regex.Pattern;

/** The face of the document, and those rules of LANGUAGE.md that can be seen by a plain look. */
public final class RulesTest {
    private static final Set<String> FACE = Set.of("int letter(int)", "int blank()", "int fault()", "int keep()",
            "int drop(int)", "int ask()", "int weight(int)", "int bound(int)", "int segment(int, int)",
            "int sign(int, int, int)", "int alike(int, int, int, int)", "int two(int, int, int)",
            "int gram(int, int)", "int near(int, int)", "int step(int, int, int)", "int rank(int)",
            "int question(int)", "int covered(int)", "int count(int)", "long digest()");
    private static final Set<String> CONSTANTS = Set.of("NONE", "UNKNOWN", "OUTSIDE", "STATE", "FULL");
    private static final Check CHECK = new Check("RulesTest");

    public static void main(String[] args) throws IOException {
        face();
        for (Class<?> inside : NearPhrases.class.getDeclaredClasses()) {
            inside(inside);
            CHECK.holds(inside + " has no class inside", inside.getDeclaredClasses().length == 0);
        }
        CHECK.holds("at most twelve classes", NearPhrases.class.getDeclaredClasses().length < 12);
        source(Files.readString(Path.of(args[0])));
        CHECK.end();
    }

    private static String head(Method method) {
        StringBuilder types = new StringBuilder();
        for (Class<?> type : method.getParameterTypes()) {
            types.append(types.length() > 0 ? ", " : "").append(type.getName());
        }
        return method.getReturnType().getName() + " " + method.getName() + "(" + types + ")";
    }

    private static void face() {
        CHECK.holds("public and final class", NearPhrases.class.getModifiers() == (Modifier.PUBLIC | Modifier.FINAL));
        Set<String> publicHeads = new TreeSet<>();
        Set<String> publicNames = new TreeSet<>();
        for (Method method : NearPhrases.class.getDeclaredMethods()) {
            if (Modifier.isPublic(method.getModifiers())) {
                publicHeads.add(head(method));
                publicNames.add(method.getName());
            }
        }
        CHECK.holds("public methods as told: " + publicHeads, publicHeads.equals(FACE));
        for (Method method : NearPhrases.class.getDeclaredMethods()) {
            int how = method.getModifiers();
            CHECK.holds(method + " is public or private", Modifier.isPublic(how) || Modifier.isPrivate(how));
            CHECK.holds(method + " has a name of its own",
                    Modifier.isPublic(how) || !publicNames.contains(method.getName()));
            CHECK.holds(method + " has seven parameters at most", method.getParameterCount() <= 7);
        }
        Constructor<?>[] constructors = NearPhrases.class.getDeclaredConstructors();
        CHECK.due("constructors", constructors.length, 1);
        CHECK.holds("public constructor", Modifier.isPublic(constructors[0].getModifiers()));
        CHECK.due("its parameters", constructors[0].getParameterCount(), 0);
        fields(NearPhrases.class);
        for (Field field : NearPhrases.class.getDeclaredFields()) {
            boolean ofFace = CONSTANTS.contains(field.getName());
            int how = field.getModifiers();
            CHECK.holds(field + " is as visible as told", ofFace ? Modifier.isPublic(how) : Modifier.isPrivate(how));
        }
    }

    private static void inside(Class<?> inside) {
        int how = inside.getModifiers();
        CHECK.holds(inside + " is static", Modifier.isStatic(how));
        CHECK.holds(inside + " is private or package-visible", !Modifier.isPublic(how) && !Modifier.isProtected(how));
        fields(inside);
        for (Method method : inside.getDeclaredMethods()) {
            CHECK.holds(method + " has seven parameters at most", method.getParameterCount() <= 7);
            CHECK.holds(method + " has no name of the face",
                    FACE.stream().noneMatch(head -> head.contains(" " + method.getName() + "(")));
        }
    }

    private static void fields(Class<?> type) {
        int own = 0;
        for (Field field : type.getDeclaredFields()) {
            int how = field.getModifiers();
            CHECK.holds(field + " is final, if static", !Modifier.isStatic(how) || Modifier.isFinal(how));
            CHECK.holds(field + " is an int, if static", !Modifier.isStatic(how) || field.getType() == int.class);
            CHECK.holds(field + " is of a type of the rules", isOfTheRules(field.getType()));
            own += Modifier.isStatic(how) ? 0 : 1;
        }
        CHECK.holds(type + " has twenty fields at most", own <= 20);
    }

    /** Of what rule 3 leaves, that which the class has need of: numbers, own classes, rows of these. */
    private static boolean isOfTheRules(Class<?> type) {
        if (type == int.class || type == boolean.class || type == int[][].class) {
            return true;
        }
        Class<?> element = type.isArray() ? type.getComponentType() : type;
        return element == int.class || element == boolean.class || element.getEnclosingClass() == NearPhrases.class;
    }

    private static void source(String source) {
        String bare = source.replaceAll("(?s)/\\*.*?\\*/", " ").replaceAll("//[^\n]*", " ")
                .replaceAll("'(\\\\.|[^'])'", "0");
        String[] never = {"\\bthrow\\b", "\\bthrows\\b", "\\btry\\b", "\\bcatch\\b", "\\bsynchronized\\b",
            "\\bassert\\b", "->", "::", "\\bstatic\\s*\\{", "\\bpackage\\b", "\\bimport\\b", "\\bObject\\b",
            "\\bequals\\b", "\\bhashCode\\b", "\\btoString\\b", "Exact\\b", "\\bprotected\\b", "\\bdouble\\b"};
        for (String pattern : never) {
            CHECK.holds("no " + pattern, !Pattern.compile(pattern).matcher(bare).find());
        }
        CHECK.holds("signs 10 and 32 to 126 alone", source.chars().allMatch(c -> c == 10 || c >= 32 && c <= 126));
        Matcher library = Pattern.compile("\\b(Math|System|Arrays|Integer|Long|String)\\.(\\w+)").matcher(bare);
        while (library.find()) {
            CHECK.holds(library.group() + " is in the list", Set.of("Math.abs", "Math.max", "Math.min")
                    .contains(library.group()));
        }
        onlyConstructorsMake(bare);
        shortMethods(source);
    }

    /** What is made by a constructor alone is made once; no later call takes any of the room. */
    private static void onlyConstructorsMake(String bare) {
        String owner = "";
        for (String line : bare.split("\n")) {
            Matcher head = Pattern.compile("^ {4,8}(?:public |private |static )*(?:[\\w\\[\\]]+ )?(\\w+)\\(.*\\) \\{$")
                    .matcher(line);
            if (head.find()) {
                owner = head.group(1);
            }
            CHECK.holds("made in a constructor: " + line.trim(),
                    !line.contains("new ") || Character.isUpperCase(owner.charAt(0)));
        }
    }

    private static void shortMethods(String source) {
        String[] lines = source.split("\n");
        int start = -1;
        for (int i = 0; i < lines.length; i++) {
            if (lines[i].matches("^( {4}| {8})[\\w\\[\\] ]+\\(.*\\) \\{$")) {
                start = i;
            }
            boolean ends = start >= 0 && lines[i].equals(lines[start].replaceAll("\\S.*", "") + "}");
            if (ends) {
                CHECK.holds("short: " + lines[start].trim(), i - start <= 60);
                start = -1;
            }
        }
        CHECK.holds("lines of 120 signs at most", Arrays.stream(lines).allMatch(line -> line.length() <= 120));
    }
}
