import java.lang.reflect.Method;
import java.lang.reflect.Modifier;
import java.nio.file.Files;
import java.nio.file.Path;
import java.util.ArrayList;
import java.util.List;
import java.util.Map;
import java.util.TreeMap;
import java.util.TreeSet;
import java.util.regex.Matcher;
import java.util.regex.Pattern;
import java.util.stream.Stream;

/** README.md: its examples answer as it says, and it has every call, every finding and every test, and no other. */
public final class ReadmeTest {
    private static final String MADE = "LogRollers x = new LogRollers();";
    private static final Pattern EXAMPLE = Pattern.compile("x\\.(\\w+)\\((.*)\\); +// (-?\\d+)(: .*)?");
    private static final Pattern CALL_ROW = Pattern.compile("\\| `(\\w+\\([^`]*\\))` \\| .*");
    private static final Pattern FINDING_ROW = Pattern.compile("\\| `([A-Z]+)` \\| (-\\d+) \\| .*");
    private static final Pattern PUBLIC_CALL = Pattern.compile("public (?:int|long) (\\w+)\\(([^)]*)\\) \\{");
    private static final Pattern TEST = Pattern.compile("`(\\w+Test)`");

    public static void main(String[] args) throws Exception {
        List<String> lines = Files.readAllLines(Path.of("README.md"));
        examples(lines);
        calls(lines);
        findings(lines);
        tests(lines);
        Check.end();
    }

    private static void same(String what, Object due, Object got) {
        Check.due(what + " " + got + ", due is " + due, 1, due.equals(got) ? 1 : 0);
    }

    private static List<String> blocks(List<String> lines, String language) {
        List<String> inside = new ArrayList<>();
        boolean isInside = false;
        for (String line : lines) {
            if (line.startsWith("```")) {
                isInside = line.equals("```" + language);
            } else if (isInside) {
                inside.add(line);
            }
        }
        return inside;
    }

    private static void examples(List<String> lines) throws Exception {
        LogRollers x = null;
        int asked = 0;
        for (String line : blocks(lines, "java")) {
            if (line.equals(MADE)) {
                x = new LogRollers();
                continue;
            }
            Matcher m = EXAMPLE.matcher(line);
            boolean isExample = m.matches();
            Check.due("an example: " + line, 1, isExample ? 1 : 0);
            if (isExample) {
                Check.due(line, Long.parseLong(m.group(3)), answer(x, m.group(1), m.group(2)));
                asked++;
            }
        }
        Check.due("there are examples", 1, asked > 0 ? 1 : 0);
    }

    private static long answer(LogRollers x, String name, String args) throws Exception {
        String[] words = args.isEmpty() ? new String[0] : args.split(", ");
        for (Method m : LogRollers.class.getDeclaredMethods()) {
            if (Modifier.isPublic(m.getModifiers()) && m.getName().equals(name) && m.getParameterCount() == words.length) {
                Object[] boxed = new Object[words.length];
                for (int i = 0; i < words.length; i++) {
                    long v = Long.decode(words[i]);
                    boxed[i] = m.getParameterTypes()[i] == long.class ? (Object) v : (Object) (int) v;
                }
                return ((Number) m.invoke(x, boxed)).longValue();
            }
        }
        throw new IllegalStateException("no call " + name + "(" + args + ")");
    }

    /** Each call with the names of its arguments, as in the class. */
    private static void calls(List<String> lines) throws Exception {
        List<String> due = new ArrayList<>();
        Matcher m = PUBLIC_CALL.matcher(Files.readString(Path.of("src/main/java/LogRollers.java")));
        while (m.find()) {
            due.add(m.group(1) + "(" + m.group(2).replaceAll("\\b(int|long) ", "") + ")");
        }
        List<String> got = new ArrayList<>();
        for (String line : lines) {
            Matcher row = CALL_ROW.matcher(line);
            if (row.matches()) {
                got.add(row.group(1));
            }
        }
        same("calls", due, got);
        Check.due("as many calls as the document has", 35, got.size());
    }

    private static void findings(List<String> lines) {
        Map<String, Long> due = new TreeMap<>(Map.of("BEYOND", Check.BEYOND, "FULL", Check.FULL, "KIND", Check.KIND, "NONE", Check.NONE,
                "STATE", Check.STATE, "MISSING", Check.MISSING, "SIZE", Check.SIZE));
        Map<String, Long> got = new TreeMap<>();
        for (String line : lines) {
            Matcher row = FINDING_ROW.matcher(line);
            if (row.matches()) {
                got.put(row.group(1), Long.parseLong(row.group(2)));
            }
        }
        same("findings", due, got);
    }

    private static void tests(List<String> lines) throws Exception {
        TreeSet<String> due = new TreeSet<>();
        try (Stream<Path> files = Files.list(Path.of("src/test/java"))) {
            files.map(f -> f.getFileName().toString()).filter(f -> f.endsWith("Test.java"))
                    .forEach(f -> due.add(f.substring(0, f.length() - ".java".length())));
        }
        TreeSet<String> got = new TreeSet<>();
        for (String line : lines) {
            Matcher m = TEST.matcher(line);
            while (line.startsWith("| `") && m.find()) {
                got.add(m.group(1));
            }
        }
        same("tests", due, got);
    }
}
