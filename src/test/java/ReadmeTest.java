import java.io.IOException;
import java.lang.reflect.Method;
import java.lang.reflect.Modifier;
import java.nio.file.Files;
import java.nio.file.Path;
import java.util.ArrayList;
import java.util.Arrays;
import java.util.List;
import java.util.Set;
import java.util.TreeSet;
import java.util.regex.Matcher;
import java.util.regex.Pattern;
import java.util.stream.Stream;

/** What README.md says of the class and of its tests. It is read from the project's folder. */
final class ReadmeTest {
    private static final Path README = Path.of("README.md");
    private static final Path DOCUMENT = Path.of("../shared/DOC.md");
    private static final Path TESTS = Path.of("src/test/java");
    // A call of the example and, behind it, its answer: log.slot(0, 1); // -1: a hole
    private static final Pattern EXAMPLE = Pattern.compile("log\\.(\\w+)\\(([^)]*)\\);\\s*// (-?[0-9.]+)(:.*)?");
    // A row of the table of calls: | `slot(template, place)` | .. | 11 |
    private static final Pattern ROW = Pattern.compile("\\| `(\\w+)\\(([^)]*)\\)` \\|.*\\| (\\d+) \\|");
    // A row of the table of settings: | SHARE, .. | 0 | 0 to 100 | 50 |
    private static final Pattern SETTING = Pattern.compile("\\| [A-Z]+, .*\\| (\\d+) \\| (\\d+) to (\\d+) \\| (\\d+) \\|");
    // A row of a table of tests: | `FaceTest` | .. |
    private static final Pattern TEST = Pattern.compile("\\| `(\\w+Test)` \\|.*");

    private static final Check CHECK = new Check();

    public static void main(String[] args) throws IOException, ReflectiveOperationException {
        List<String> page = Files.readAllLines(README);
        example(page);
        calls(page);
        settings(page);
        tests(page);
        CHECK.end("ReadmeTest");
    }

    private static void example(List<String> page) throws ReflectiveOperationException {
        CHECK.about("the example answers what stands behind each call");
        Nightjar log = new Nightjar();
        for (String row : page) {
            if (row.startsWith("log.")) {
                Matcher m = EXAMPLE.matcher(row);
                CHECK.same("row of the example with a call and its answer: " + row, 1, m.matches() ? 1 : 0);
                if (m.matches()) {
                    String answer = answer(log, m.group(1), m.group(2));
                    CHECK.same(m.group(1) + "(" + m.group(2) + ")", m.group(3), answer);
                }
            }
        }
    }

    private static String answer(Nightjar log, String name, String list) throws ReflectiveOperationException {
        List<Integer> numbers = new ArrayList<>();
        for (String number : list.isEmpty() ? new String[0] : list.split(", ")) {
            numbers.add(Integer.parseInt(number));
        }
        Class<?>[] kinds = new Class<?>[numbers.size()];
        Arrays.fill(kinds, int.class);
        return Nightjar.class.getMethod(name, kinds).invoke(log, numbers.toArray()).toString();
    }

    private static void calls(List<String> page) throws IOException {
        CHECK.about("each call with as many arguments as it has, by its promise");
        Set<String> due = new TreeSet<>();
        for (Method m : Nightjar.class.getDeclaredMethods()) {
            if (Modifier.isPublic(m.getModifiers())) {
                due.add(m.getName() + " with " + m.getParameterCount());
            }
        }
        Set<String> got = new TreeSet<>();
        List<String> document = Files.readAllLines(DOCUMENT);
        List<Matcher> rows = rows(page, ROW);
        for (Matcher m : rows) {
            String list = m.group(2);
            got.add(m.group(1) + " with " + (list.isEmpty() ? 0 : list.split(", ").length));
            String heading = "## Promise " + m.group(3) + ": " + m.group(1);
            CHECK.same(heading + " in the document", 1, document.contains(heading) ? 1 : 0);
        }
        CHECK.same("the calls", due.toString(), got.toString());
        CHECK.same("rows of calls", due.size(), rows.size());
    }

    private static void settings(List<String> page) {
        CHECK.about("each setting with its number, its range and what it is at first");
        List<Matcher> rows = rows(page, SETTING);
        CHECK.same("settings", 4, rows.size());
        for (Matcher m : rows) {
            int what = Integer.parseInt(m.group(1));
            int least = Integer.parseInt(m.group(2));
            int most = Integer.parseInt(m.group(3));
            CHECK.same("setting " + what + " at first", Integer.parseInt(m.group(4)), new Nightjar().set(what, least));
            CHECK.range("set(" + what + ", n)", IllegalArgumentException.class, least, most, Nightjar::new,
                (x, n) -> x.set(what, n));
        }
    }

    private static void tests(List<String> page) throws IOException {
        CHECK.about("each test");
        Set<String> due = new TreeSet<>();
        try (Stream<Path> files = Files.list(TESTS)) {
            files.map(file -> file.getFileName().toString()).filter(name -> name.endsWith("Test.java"))
                .forEach(name -> due.add(name.replace(".java", "")));
        }
        Set<String> got = new TreeSet<>();
        for (Matcher m : rows(page, TEST)) {
            got.add(m.group(1));
        }
        CHECK.same("the tests", due.toString(), got.toString());
    }

    private static List<Matcher> rows(List<String> page, Pattern form) {
        List<Matcher> found = new ArrayList<>();
        for (String row : page) {
            Matcher m = form.matcher(row);
            if (m.matches()) {
                found.add(m);
            }
        }
        return found;
    }
}
