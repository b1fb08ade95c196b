import java.io.IOException;
import java.lang.reflect.Constructor;
import java.lang.reflect.Field;
import java.lang.reflect.Method;
import java.lang.reflect.Modifier;
import java.nio.charset.StandardCharsets;
import java.nio.file.Files;
import java.nio.file.Path;
import java.util.HashSet;
import java.util.List;
import java.util.Set;
import java.util.TreeSet;
import java.util.regex.Pattern;

/** The face of the document, and those rules of LANGUAGE.md that a look at the class or its text can tell. */
final class LanguageTests {
    private static final String[] FACE = {
        "begin(int) I S", "set(int,int,int) I A S", "setStart(int,int) I", "undo(int) I S", "redo(int) I S",
        "setSpring(int,int) I A", "prove(int) I", "offer(int) I S", "copy(int,int) I S", "star(int,int,int) I A S",
        "run(int,int) I S", "step(int,int) I A S", "levels()", "at(int,int) I", "start(int) I",
        "edits(int,boolean) I", "proof(int) I", "shortest(int,int) I A", "reach(int) I", "farthest(int) I",
        "strength(int) I", "works()", "author(int) I", "best(int) I", "parent(int) I", "line(int) I",
        "stars(int) I", "credit(int) I", "record(int) I", "runState(int) I", "body(int) I", "speed(int) I",
        "keys(int) I", "stepsOf(int) I",
    };

    private static final String[] NOT_IN_THE_TEXT = {
        "\\bimport\\b", "\\bpackage\\b", "\\bcatch\\b", "\\btry\\b", "\\bfinally\\b", "->", "::", "\\bassert\\b",
        "\\bsynchronized\\b", "\\bSystem\\b", "\\bObject\\b", "\\bstatic \\{", "\\bvar\\b", "Exact\\(",
        "\\bdouble\\b", "\\bfloat\\b", "@",
    };

    /** What the interface says ahead of calls, with the first and the last of these calls. */
    private static final String[][] HEADINGS = {
        {"---- levels", "begin", "prove"},
        {"---- the exchange", "offer", "star"},
        {"---- runs", "run", "step"},
        {"---- levels as they are; nothing from here on changes anything", "levels", "strength"},
        {"---- works as they are", "works", "record"},
        {"---- runs as they are", "runState", "stepsOf"},
    };

    private LanguageTests() {
    }

    static void all(Path source) throws IOException {
        face();
        members();
        text(source);
        headings(source);
    }

    private static void face() {
        Check.begin("the face");
        Set<String> due = new TreeSet<>(Set.of(FACE));
        Set<String> found = new TreeSet<>();
        for (Method method : LedgeLevels.class.getDeclaredMethods()) {
            if (!Modifier.isPrivate(method.getModifiers())) {
                Check.holds(method + " answers no int", method.getReturnType() == int.class);
                Check.holds(method + " is not public", Modifier.isPublic(method.getModifiers()));
                Check.holds(method + " is static", !Modifier.isStatic(method.getModifiers()));
                found.add(signature(method));
            }
        }
        Check.due("the public methods", due.toString(), found.toString());
        Check.holds("the class is not public and final", LedgeLevels.class.getModifiers() == 17);
        Constructor<?>[] constructors = LedgeLevels.class.getDeclaredConstructors();
        Check.due("constructors", 1, constructors.length);
        Check.due("parameters of the constructor", 0, constructors[0].getParameterCount());
        Check.due("exceptions of the constructor", 0, constructors[0].getExceptionTypes().length);
    }

    private static String signature(Method method) {
        StringBuilder text = new StringBuilder(method.getName()).append('(');
        for (Class<?> type : method.getParameterTypes()) {
            text.append(text.charAt(text.length() - 1) == '(' ? "" : ",").append(type.getName());
        }
        text.append(')');
        for (Class<?> type : method.getExceptionTypes()) {
            String name = type.getSimpleName();
            text.append(name.startsWith("Index") ? " I" : name.startsWith("IllegalArg") ? " A" : " S");
        }
        return text.toString();
    }

    private static void members() {
        Check.begin("rules 1, 5 and 11");
        Set<String> publicNames = new HashSet<>();
        for (String method : FACE) {
            publicNames.add(method.substring(0, method.indexOf('(')));
        }
        membersOf(LedgeLevels.class, publicNames);
        Class<?>[] inside = LedgeLevels.class.getDeclaredClasses();
        Check.holds("more than twelve classes", inside.length < 12);
        for (Class<?> one : inside) {
            Check.holds(one + " is not private and static", (one.getModifiers() & 10) == 10);
            membersOf(one, publicNames);
            for (Method method : one.getDeclaredMethods()) {
                Check.holds(method + " bears the name of a public one", !publicNames.contains(method.getName()));
            }
        }
        for (Field field : LedgeLevels.class.getDeclaredFields()) {
            Check.holds(field + " is not private", Modifier.isPrivate(field.getModifiers()));
        }
    }

    private static void membersOf(Class<?> one, Set<String> publicNames) {
        int fields = 0;
        for (Field field : one.getDeclaredFields()) {
            boolean isConstant = Modifier.isStatic(field.getModifiers());
            Check.holds(field + " can change", !isConstant || Modifier.isFinal(field.getModifiers()));
            fields += isConstant ? 0 : 1;
        }
        Check.holds(one + " has more than twenty fields", fields <= 20);
        for (Method method : one.getDeclaredMethods()) {
            boolean isHidden = Modifier.isPrivate(method.getModifiers());
            Check.holds(method + " bears the name of a public one", !isHidden || !publicNames.contains(method.getName()));
            Check.holds(method + " has more than seven parameters", method.getParameterCount() <= 7);
        }
    }

    private static void text(Path source) throws IOException {
        Check.begin("the text of the class");
        List<String> lines = Files.readAllLines(source, StandardCharsets.US_ASCII);
        for (String pattern : NOT_IN_THE_TEXT) {
            Pattern sought = Pattern.compile(pattern);
            for (String line : lines) {
                Check.holds("it holds " + pattern + ": " + line, isComment(line) || !sought.matcher(line).find());
            }
        }
        int from = 0;
        for (int number = 0; number < lines.size(); number++) {
            String line = lines.get(number);
            from = line.isBlank() ? number : from;
            Check.holds("a part without a gap is longer than sixty lines, at " + number, number - from <= 60);
        }
    }

    private static void headings(Path source) throws IOException {
        Check.begin("what the interface says");
        String text = Files.readString(source, StandardCharsets.US_ASCII);
        int place = 0;
        for (String[] heading : HEADINGS) {
            String[] sought = {"// " + heading[0] + "\n", "public int " + heading[1] + "(", "public int " + heading[2] + "("};
            for (String words : sought) {
                int found = text.indexOf(words, place);
                Check.holds("it has not, in its place: " + words, found >= 0);
                place = Math.max(found, place);
            }
        }
    }

    private static boolean isComment(String line) {
        String text = line.strip();
        return text.startsWith("*") || text.startsWith("/") || text.startsWith("//");
    }
}
