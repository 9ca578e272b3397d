import java.io.File;
import java.io.IOException;
import java.lang.reflect.Method;
import java.lang.reflect.Modifier;
import java.nio.file.Files;
import java.nio.file.Path;
import java.util.ArrayList;
import java.util.List;
import java.util.Map;
import java.util.TreeMap;
import java.util.regex.Matcher;
import java.util.regex.Pattern;

/** README.md's example answers what it says there, and its tables name every call and every file of the tests. */
public final class ReadmeTest {
    private static final Pattern ANSWER = Pattern.compile("int (\\w+) = .*; *// (-?\\d+)\\b.*");
    private static final Pattern CALL = Pattern.compile("(?m)^\\| `(\\w+)\\((.*)\\)` \\|");
    private static final Pattern FILE = Pattern.compile("`([A-Z][\\w*]*)`");

    public static void main(String[] args) throws IOException {
        String readme = Files.readString(Path.of("README.md"));
        String example = between(readme, "```java\n", "```");
        dueAnswers(example);
        dueLines(example, between(Files.readString(Path.of("src/test/java/ReadmeTest.java")), "// [\n", "// ]\n"));
        dueCalls(readme);
        dueFiles(readme.substring(readme.indexOf("| file |")));
        Check.done();
    }

    private static Map<String, Integer> example() {
        // [
        SeparationMonitor m = new SeparationMonitor(5); // 5 is the key
        m.region(0, 0, 4);                 // partition 0 has words 0 .. 3:
        m.load(0, 0x000010B7);             // lui x1, 1: 4096, where channel 0 is
        m.load(1, 0x00700113);             // addi x2, x0, 7
        m.load(2, 0x0020A023);             // sw x2, 0(x1)
        m.load(3, 115);                    // a call; x15 is 0: yield
        m.region(1, 8, 5);                 // partition 1 has words 8 .. 12:
        m.load(8, 0x000010B7);             // lui x1, 1
        m.load(9, 0x0000A183);             // lw x3, 0(x1)
        m.load(10, 0x00302823);            // sw x3, 16(x0): the last of its own words
        m.load(11, 115);                   // yield
        m.policy(1, 1);                    // partition 1 is restarted when it faults
        m.channel(0, 0, 0b0010, 30);       // channel 0: from 0 to 1, fresh for 30 ticks
        m.window(0, 10);                   // ten ticks for partition 0,
        m.window(1, 10);                   // then ten for partition 1, for ever again
        int log = m.boot();                // measures both, and starts time
        int begun = m.run(20);             // 8 instructions, four of each
        int word = m.memory(12);           // 7, as partition 0 wrote
        int hour = m.object(0, 1);         // 3, the time when channel 0 was written
        int quote = m.quote(1234);         // what was booted, for whoever knows the key
        m.reset();                         // setting up again
        // ]
        Check.due("README's quote", quote, Asm.h(Asm.h(5, 1234), log));
        return Map.of("begun", begun, "word", word, "hour", hour);
    }

    private static void dueAnswers(String text) {
        Map<String, Integer> said = new TreeMap<>();
        for (String line : lines(text)) {
            Matcher answer = ANSWER.matcher(line);
            if (answer.matches()) {
                said.put(answer.group(1), Integer.valueOf(answer.group(2)));
            }
        }
        Map<String, Integer> got = example();
        Check.isTrue("README says " + said + ", the example answers " + got, said.equals(got));
    }

    private static void dueLines(String text, String ran) {
        Check.isTrue("README has an example", !text.isEmpty());
        Check.isTrue("README's example is the one that this test runs", lines(text).equals(lines(ran)));
    }

    private static void dueCalls(String readme) {
        Map<String, Integer> said = new TreeMap<>();
        Matcher call = CALL.matcher(readme);
        while (call.find()) {
            said.put(call.group(1), call.group(2).isEmpty() ? 0 : call.group(2).split(",").length);
        }
        Map<String, Integer> there = new TreeMap<>();
        for (Method m : SeparationMonitor.class.getDeclaredMethods()) {
            if (Modifier.isPublic(m.getModifiers())) {
                there.put(m.getName(), m.getParameterCount());
            }
        }
        Check.isTrue("README's calls are " + said + ", there are " + there, said.equals(there));
    }

    private static void dueFiles(String table) {
        List<String> names = new ArrayList<>();
        for (File file : new File("src/test/java").listFiles()) {
            names.add(file.getName().replace(".java", ""));
        }
        List<String> said = new ArrayList<>();
        Matcher file = FILE.matcher(table);
        while (file.find()) {
            said.add(file.group(1).replace("*", ".*"));
        }
        for (String name : names) {
            Check.isTrue("README tells of " + name, said.stream().anyMatch(name::matches));
        }
        for (String pattern : said) {
            Check.isTrue("there is a file " + pattern, names.stream().anyMatch(name -> name.matches(pattern)));
        }
    }

    private static List<String> lines(String text) {
        List<String> lines = new ArrayList<>();
        for (String line : text.strip().split("\n")) {
            lines.add(line.strip());
        }
        return lines;
    }

    private static String between(String text, String start, String end) {
        int from = text.indexOf(start);
        int to = from < 0 ? -1 : text.indexOf(end, from + start.length());
        return to < 0 ? "" : text.substring(from + start.length(), to);
    }
}
