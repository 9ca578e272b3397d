import java.io.IOException;
import java.lang.reflect.Constructor;
import java.lang.reflect.Field;
import java.lang.reflect.Method;
import java.lang.reflect.Modifier;
import java.nio.file.Files;
import java.nio.file.Path;
import java.util.ArrayList;
import java.util.HashSet;
import java.util.List;
import java.util.Set;
import java.util.regex.Matcher;
import java.util.regex.Pattern;

/**
 * The program keeps to those rules of LANGUAGE.md that a test can see, and to more than it must: it needs no
 * text, list, enum or recursion, so that any of these is a slip. The rule's number stands before what is wrong.
 */
public final class LanguageTest {
    private static final Path PROGRAM = Path.of("src/main/java/SeparationMonitor.java");
    private static final Set<Class<?>> CONSTANTS = Set.of(int.class, long.class, boolean.class, char.class, String.class);
    private static final Set<String> THROWN = Set.of("IllegalArgumentException", "IllegalStateException",
            "UnsupportedOperationException");
    private static final Set<String> LIBRARY = Set.of("System.arraycopy");
    private static final String[] WORDS = {"package", "import", "try", "catch", "finally", "synchronized", "assert",
        "instanceof", "protected", "enum", "record", "interface", "abstract", "native", "volatile", "Object", "String",
        "Thread", "Random", "Exact", "equals", "hashCode", "toString", "getClass", "yield", "var"};
    /** Where a class begins, or a method: its parameters and what it throws stand before the brace. */
    private static final Pattern HEAD = Pattern.compile(
            "\\bclass (\\w+) \\{|\\b(\\w+)\\([^(){};]*\\)\\s*(?:throws [\\w, ]+)?\\s*\\{");

    /** A call of anything but a constructor; a keyword has a space before its bracket. */
    private static final Pattern CALL = Pattern.compile("(?<!new )\\b\\w+\\(");

    private final String program;

    private LanguageTest(String program) {
        this.program = program;
    }

    public static void main(String[] args) throws IOException {
        LanguageTest test = new LanguageTest(withoutComments(Files.readString(PROGRAM)));
        List<Class<?>> classes = new ArrayList<>(List.of(SeparationMonitor.class.getDeclaredClasses()));
        classes.add(SeparationMonitor.class);
        Check.isTrue("11: some twelve classes", classes.size() <= 12);
        for (Class<?> c : classes) {
            dueFields(c, classes);
            dueMethods(c);
        }
        dueNames(classes);
        test.dueWords();
        test.dueThrows();
        test.dueLibrary();
        test.dueLoops();
        List<Part> parts = test.parts();
        dueShort(parts);
        dueShallow(parts);
        Check.done();
    }

    private static String withoutComments(String text) {
        return text.replaceAll("(?s)/\\*.*?\\*/", "").replaceAll("//[^\n]*", "");
    }

    private static void dueFields(Class<?> c, List<Class<?>> classes) {
        int ofObjects = 0;
        for (Field f : c.getDeclaredFields()) {
            if (Modifier.isStatic(f.getModifiers())) {
                Check.isTrue("5: " + f + " is a final constant",
                        Modifier.isFinal(f.getModifiers()) && CONSTANTS.contains(f.getType()));
            } else {
                ofObjects++;
                Class<?> type = f.getType().isArray() ? f.getType().getComponentType() : f.getType();
                Check.isTrue("3: the type of " + f, type.isPrimitive() || classes.contains(type));
            }
        }
        Check.isTrue("11: some twenty fields in " + c, ofObjects <= 20);
    }

    private static void dueMethods(Class<?> c) {
        for (Method m : c.getDeclaredMethods()) {
            Check.isTrue("11: at most seven parameters in " + m, m.getParameterCount() <= 7);
        }
        for (Constructor<?> k : c.getDeclaredConstructors()) {
            Check.isTrue("11: at most seven parameters in " + k, k.getParameterCount() <= 7);
        }
    }

    /** By name over all classes, which is more than the rule asks. */
    private static void dueNames(List<Class<?>> classes) {
        Set<String> shown = new HashSet<>();
        for (Method m : SeparationMonitor.class.getDeclaredMethods()) {
            if (Modifier.isPublic(m.getModifiers())) {
                shown.add(m.getName());
            }
        }
        for (Class<?> c : classes) {
            for (Method m : c.getDeclaredMethods()) {
                Check.isTrue("1: " + m + " does not bear the name of a public one",
                        Modifier.isPublic(m.getModifiers()) || !shown.contains(m.getName()));
            }
        }
    }

    private void dueWords() {
        for (String word : WORDS) {
            Check.isTrue("2, 3, 4, 6, 13: no " + word, !Pattern.compile("\\b" + word + "\\b").matcher(program).find());
        }
        Check.isTrue("2: no lambda", !program.contains("->"));
        Check.isTrue("2: no method reference", !program.contains("::"));
        Check.isTrue("5: no static block", !Pattern.compile("static\\s*\\{").matcher(program).find());
        Check.isTrue("7: no divisor but 4", !Pattern.compile("[/%](?! 4\\b)").matcher(program).find());
    }

    private void dueThrows() {
        Matcher thrown = Pattern.compile("\\bthrow\\b([^;]*);").matcher(program);
        while (thrown.find()) {
            Matcher made = Pattern.compile(" new (\\w+)\\(\\)").matcher(thrown.group(1));
            Check.isTrue("6: throw" + thrown.group(1), made.matches() && THROWN.contains(made.group(1)));
        }
    }

    private void dueLibrary() {
        Matcher used = Pattern.compile("\\b[A-Z]\\w*\\.[a-z]\\w*").matcher(program);
        while (used.find()) {
            String owner = used.group().substring(0, used.group().indexOf('.'));
            Check.isTrue("4: " + used.group(), owner.equals("Code") || owner.equals("Reckoner")
                    || LIBRARY.contains(used.group()));
        }
    }

    /** A method or constructor of the program, as its text stands there. */
    private record Part(String owner, String name, String body) {
    }

    private List<Part> parts() {
        List<Part> parts = new ArrayList<>();
        String owner = "";
        Matcher head = HEAD.matcher(program);
        while (head.find()) {
            if (head.group(1) != null) {
                owner = head.group(1);
            } else {
                parts.add(new Part(owner, head.group(2), block(head.end())));
            }
        }
        return parts;
    }

    /** The text from behind a brace to the one that closes it. */
    private String block(int from) {
        int open = 1;
        int at = from;
        while (at < program.length() && open > 0) {
            char c = program.charAt(at);
            open += c == '{' ? 1 : c == '}' ? -1 : 0;
            at++;
        }
        return program.substring(from, at);
    }

    private static void dueShort(List<Part> parts) {
        Check.isTrue("the test finds the methods", parts.size() > 60);
        for (Part part : parts) {
            Check.isTrue("11: some sixty lines in " + part.owner + "." + part.name,
                    part.body.split("\n").length <= 60);
            if (part.name.equals(part.owner)) {
                Check.isTrue("6: no throw in the constructor of " + part.owner, !part.body.contains("throw"));
                Check.isTrue("12: the constructor of " + part.owner + " calls only constructors",
                        !CALL.matcher(part.body).find());
            }
        }
    }

    /** How many calls stand open at most; past the bound it is told as too deep, which recursion always is. */
    private static int depth(Part part, List<Part> parts, int bound) {
        int deepest = 0;
        Matcher call = Pattern.compile("(\\.|new )?\\b(\\w+)\\(").matcher(part.body);
        while (bound > 0 && call.find()) {
            for (Part other : parts) {
                // A name behind a dot is another class's: no object here calls one of its own class.
                boolean own = other.owner.equals(part.owner) || other.owner.equals("SeparationMonitor");
                boolean meant = call.group(1) == null ? own : !other.owner.equals(part.owner);
                if (meant && other.name.equals(call.group(2))) {
                    deepest = Math.max(deepest, depth(other, parts, bound - 1));
                }
            }
        }
        return deepest + 1;
    }

    private static void dueShallow(List<Part> parts) {
        for (Part part : parts) {
            if (part.owner.equals("SeparationMonitor")) {
                Check.isTrue("8, 11: calls go at most eight deep from " + part.name, depth(part, parts, 9) <= 8);
            }
        }
    }

    private void dueLoops() {
        Check.isTrue("9: only counting loops", !Pattern.compile("\\b(while|do)\\b").matcher(program).find());
        Matcher loop = Pattern.compile("\\bfor \\(([^{]*)\\) \\{").matcher(program);
        while (loop.find()) {
            Check.isTrue("9: " + loop.group(1),
                    loop.group(1).matches("int (\\w) = 0; \\1 < [A-Za-z]\\w*; \\1\\+\\+"));
        }
    }
}
