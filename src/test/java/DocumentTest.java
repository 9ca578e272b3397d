import java.io.File;
import java.io.IOException;
import java.lang.reflect.Method;
import java.nio.file.Files;
import java.nio.file.Path;
import java.util.Arrays;
import java.util.Set;
import java.util.TreeSet;

/**
 * Each test's words stand in the document where the test says, and no promise and no term is without a test.
 * Where the document itself is not to be had, only the latter is looked at.
 */
public final class DocumentTest {
    private static final Path DOCUMENT = Path.of("../shared/DOC.md");
    private static final String[] TERMS = {"H(a, b)", "SETTING UP", "BOOTING", "RUNNING", "AN INSTRUCTION", "ADDRESSES",
        "CALL,", "A FAULT", "SLOTS", "\"Bad\""};

    private final String document;
    private final Set<String> seen = new TreeSet<>();

    private DocumentTest(String document) {
        this.document = document;
    }

    public static void main(String[] args) throws IOException, ClassNotFoundException {
        DocumentTest test = new DocumentTest(Files.isReadable(DOCUMENT) ? Files.readString(DOCUMENT) : "");
        File[] files = new File("src/test/java").listFiles();
        Arrays.sort(files);
        for (File file : files) {
            String name = file.getName();
            if (name.endsWith("Test.java")) {
                test.look(Class.forName(name.substring(0, name.length() - ".java".length())));
            }
        }
        for (String term : TERMS) {
            Check.isTrue(term + " has a test", test.seen.contains(term));
        }
        for (int n = 1; n <= 15; n++) {
            Check.isTrue("Promise " + n + " has a test", test.seen.contains("Promise " + n));
        }
        Check.done();
    }

    private void look(Class<?> tests) {
        Of of = tests.getAnnotation(Of.class);
        if (of == null) {
            return;
        }
        seen.add(of.value());
        Check.isTrue(tests.getName() + " has tests", !Tests.of(tests).isEmpty());
        if (!document.isEmpty()) {
            dueWords(of, tests);
        }
    }

    private void dueWords(Of of, Class<?> tests) {
        String part = part(of.value());
        for (Method test : Tests.of(tests)) {
            String words = test.getAnnotation(Says.class).value();
            Check.isTrue("the document says under " + of.value() + ": " + words, part.contains(words));
        }
    }

    /** What the document says under a heading or of a term; nothing if there is no such. */
    private String part(String name) {
        if (Arrays.asList(TERMS).contains(name)) {
            return upTo(behind(upTo(behind(document, "\n## Terms"), "\n## "), "\n" + name, "\n " + name), starts());
        }
        return upTo(behind(document, "\n## " + name), "\n## ");
    }

    private static String[] starts() {
        String[] starts = new String[2 * TERMS.length];
        for (int i = 0; i < TERMS.length; i++) {
            starts[2 * i] = "\n" + TERMS[i];
            starts[2 * i + 1] = "\n " + TERMS[i];
        }
        return starts;
    }

    /** The text from where one of the starts is. */
    private static String behind(String text, String... starts) {
        for (String start : starts) {
            int at = text.indexOf(start);
            if (at >= 0) {
                return text.substring(at);
            }
        }
        return "";
    }

    private static String upTo(String text, String... ends) {
        int end = text.length();
        for (String mark : ends) {
            int at = text.indexOf(mark, 1);
            end = at >= 0 && at < end ? at : end;
        }
        return text.substring(0, end);
    }
}
