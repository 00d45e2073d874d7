import java.io.ByteArrayOutputStream;
import java.io.IOException;
import java.io.PrintStream;
import java.lang.reflect.Method;
import java.lang.reflect.Modifier;
import java.net.URL;
import java.net.URLClassLoader;
import java.nio.file.Files;
import java.nio.file.Path;
import java.util.ArrayList;
import java.util.Arrays;
import java.util.List;
import java.util.regex.Matcher;
import java.util.regex.Pattern;
import java.util.stream.Stream;
import javax.tools.ToolProvider;

/** README.md held against the class: its program, its tables of calls and bounds, its list of tests. */
public final class ReadmeTest {
    private static final Check CHECK = new Check();
    private static final Path README = Path.of("README.md");
    private static final Path TESTS = Path.of("src/test/java");
    private static final Pattern BOUNDS = Pattern.compile("(\\d+) \\.\\. (\\d+)");

    private static List<String[]> rows;

    public static void main(String[] args) throws Exception {
        String text = Files.readString(README);
        rows = text.lines().filter(line -> line.startsWith("|")).map(ReadmeTest::cells).toList();
        CHECK.sentence("its program prints what it says", () -> exampleIsTrue(text));
        CHECK.sentence("a row for every call", ReadmeTest::everyCallHasARow);
        CHECK.sentence("the kinds of entries", ReadmeTest::kindsAreTrue);
        CHECK.sentence("the rules' words", ReadmeTest::wordsAreTrue);
        CHECK.sentence("what a play answers", ReadmeTest::answersOfAPlayAreTrue);
        CHECK.sentence("a row for every test", ReadmeTest::everyTestHasARow);
        CHECK.finish();
    }

    private static String[] cells(String line) {
        return Stream.of(line.substring(1).split("\\|")).map(String::trim).toArray(String[]::new);
    }

    private static void exampleIsTrue(String text) {
        try {
            String printed = run(block(text, "java"));
            String told = block(text, "text");
            CHECK.due("the program printed\n" + printed + "and README.md tells\n" + told + "alike",
                    printed.equals(told) ? 1 : 0, 1);
            CHECK.due("the program prints something", printed.isEmpty() ? 0 : 1, 1);
        } catch (IOException | ReflectiveOperationException e) {
            throw new IllegalStateException(e);
        }
    }

    private static String block(String text, String language) {
        Matcher found = Pattern.compile("(?s)```" + language + "\n(.*?)```").matcher(text);
        return found.find() ? found.group(1) : "";
    }

    private static String run(String program) throws IOException, ReflectiveOperationException {
        Path folder = Files.createTempDirectory("readme");
        Path source = folder.resolve("Example.java");
        Files.writeString(source, program);
        int faults = ToolProvider.getSystemJavaCompiler().run(null, null, null, "-Xlint:all", "-Werror",
                "-cp", System.getProperty("java.class.path"), "-d", folder.toString(), source.toString());
        CHECK.due("faults as the program is compiled", faults, 0);
        ByteArrayOutputStream printed = new ByteArrayOutputStream();
        PrintStream before = System.out;
        try (URLClassLoader loader = new URLClassLoader(new URL[] {folder.toUri().toURL()})) {
            System.setOut(new PrintStream(printed, true));
            loader.loadClass("Example").getMethod("main", String[].class).invoke(null, (Object) new String[0]);
        } finally {
            System.setOut(before);
            Files.deleteIfExists(folder.resolve("Example.class"));
            Files.deleteIfExists(source);
            Files.deleteIfExists(folder);
        }
        return printed.toString().replace(System.lineSeparator(), "\n");
    }

    private static void everyCallHasARow() {
        for (Method method : KeyBox.class.getDeclaredMethods()) {
            if (Modifier.isPublic(method.getModifiers())) {
                int parameters = method.getParameterCount();
                String told = parameters == 0 ? "" : "\\w+(, \\w+){" + (parameters - 1) + "}";
                String row = "`" + method.getName() + "\\(" + told + "\\)`";
                CHECK.due("rows of " + method.getName(), rows.stream().filter(r -> r[0].matches(row)).count(), 1);
            }
        }
    }

    private static void kindsAreTrue() {
        KeyBox box = new KeyBox();
        box.meet(0, 7);
        for (int kind = 1; kind <= 7; kind++) {
            String[] row = under("kind", kind);
            int[] n = bounds(row[3]);
            CHECK.due("n too low for kind " + kind, box.enter(kind, 0, n[0] - 1), KeyBox.RANGE);
            CHECK.due("n too high for kind " + kind, box.enter(kind, 0, n[1] + 1), KeyBox.RANGE);
            CHECK.due("least n for kind " + kind, box.enter(kind, 0, n[0]), 2 * kind - 1);
            CHECK.due("most n for kind " + kind, box.enter(kind, 0, n[1]), 2 * kind);
            boolean anyMember = box.enter(kind, 2, n[0]) >= 0;
            CHECK.due("a member other than 0 for kind " + kind, anyMember ? 1 : 0, row[2].equals("who") ? 1 : 0);
            if (anyMember) {
                box.back();
            }
        }
    }

    private static void wordsAreTrue() {
        KeyBox box = new KeyBox();
        for (int what = 0; what < 11; what++) {
            String[] row = under("`what`", what);
            String word = row[1].replace("`", "");
            int[] bounds = bounds(row[2]);
            CHECK.due(word + " untold", box.rule(0, what), row[3].equals("-") ? KeyBox.NONE : Integer.parseInt(row[3]));
            for (int bound : bounds) {
                CHECK.due(word + " " + bound, Check.tell(box, 1, word + " " + bound + ";"), 1);
                CHECK.due(word + " " + bound + " is rule " + what, box.rule(1, what), bound);
            }
            Check.tell(box, 1, word + " " + (bounds[1] + 1) + ";");
            CHECK.due(word + " too high", box.fault(0), 2);
            if (bounds[0] > 0) {
                Check.tell(box, 1, word + " " + (bounds[0] - 1) + ";");
                CHECK.due(word + " too low", box.fault(0), 2);
            }
        }
        String[] orders = under("`what`", 11)[2].replaceAll("`|,| \\(.*", "").split(" ");
        CHECK.due("orders", orders.length, 3);
        for (int order = 0; order < orders.length; order++) {
            CHECK.due("order " + orders[order], Check.tell(box, 1, "order " + orders[order] + ";"), 1);
            CHECK.due("order " + orders[order] + " is", box.rule(1, 11), order);
        }
    }

    private static void answersOfAPlayAreTrue() {
        KeyBox box = new KeyBox();
        box.meet(0, 7);
        box.play(0);
        for (int what = 0; what <= 13; what++) {
            String[] row = what == 13 ? new String[0] : Arrays.copyOf(underLast("`what`", what), 4);
            CHECK.due("member " + what + " is told", told(row, 1), box.member(0, what) == -9 ? 0 : 1);
            CHECK.due("meeting " + what + " is told", told(row, 2), box.meeting(0, what) == -9 ? 0 : 1);
            CHECK.due("sum " + what + " is told", told(row, 3), box.sum(what) == -9 ? 0 : 1);
        }
    }

    private static int told(String[] row, int column) {
        return column < row.length && row[column] != null && !row[column].isEmpty() ? 1 : 0;
    }

    private static void everyTestHasARow() {
        List<String> names = new ArrayList<>();
        for (String file : TESTS.toFile().list()) {
            if (file.endsWith("Test.java")) {
                names.add("`" + file.replace(".java", "") + "`");
            }
        }
        for (String name : names) {
            CHECK.due("rows of " + name, rows.stream().filter(r -> r[0].equals(name)).count(), 1);
        }
        CHECK.due("rows of tests", rows.stream().filter(r -> r[0].endsWith("Test`")).count(), names.size());
    }

    /** The row that begins with the number, of the first table whose head begins with the word. */
    private static String[] under(String head, int number) {
        return rowBehind(heads(head).get(0), number);
    }

    private static String[] underLast(String head, int number) {
        List<Integer> found = heads(head);
        return rowBehind(found.get(found.size() - 1), number);
    }

    private static List<Integer> heads(String head) {
        List<Integer> found = new ArrayList<>();
        for (int i = 0; i < rows.size(); i++) {
            if (rows.get(i)[0].equals(head)) {
                found.add(i);
            }
        }
        return found;
    }

    private static String[] rowBehind(int head, int number) {
        for (int i = head + 2; i < rows.size(); i++) {
            if (rows.get(i)[0].equals(String.valueOf(number))) {
                return rows.get(i);
            }
        }
        throw new IllegalStateException("README.md has no row " + number);
    }

    /** "2 .. 5" as both, a number alone as itself twice. */
    private static int[] bounds(String cell) {
        Matcher found = BOUNDS.matcher(cell);
        if (found.find()) {
            return new int[] {Integer.parseInt(found.group(1)), Integer.parseInt(found.group(2))};
        }
        return new int[] {Integer.parseInt(cell), Integer.parseInt(cell)};
    }
}
