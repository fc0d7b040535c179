import java.io.IOException;
import java.lang.reflect.Field;
import java.lang.reflect.Modifier;
import java.nio.file.Files;
import java.nio.file.Path;
import java.util.ArrayList;
import java.util.Arrays;
import java.util.List;
import java.util.TreeSet;
import java.util.regex.Matcher;
import java.util.regex.Pattern;
import java.util.stream.Stream;

/** README.md against the class as it stands: its example, its error codes, its calls, and how the tests are run. */
public final class ReadmeTest {
    private static final Path README = Path.of("README.md");
    private static final Path SOURCE = Path.of("src/main/java/FeedDesk.java");
    private static final Path TESTS = Path.of("src/test/java");
    private static final Checks checks = new Checks();

    private ReadmeTest() {
    }

    public static void main(String[] arguments) throws IOException, ReflectiveOperationException {
        String page = Files.readString(README);
        example(page);
        errorCodes(page);
        calls(page, Files.readString(SOURCE));
        howToRun(page);
        checks.finish();
    }

    // ---- the example

    private static void example(String page) throws ReflectiveOperationException {
        checks.part("the example");
        int start = page.indexOf("```java\n") + 8;
        String code = page.substring(start, page.indexOf("```", start));
        Matcher patch = Pattern.compile("for \\(char character : \"(.*)\"\\.toCharArray\\(\\)\\)").matcher(code);
        checks.holds("it types a patch", patch.find());
        FeedDesk desk = Desks.type(new FeedDesk(), patch.group(1));
        Matcher call = Pattern.compile("(?m)^desk\\.(\\w+)\\((.*?)\\); +// (-?\\d+): .*$").matcher(code);
        int calls = 0;
        while (call.find()) {
            checks.due(call.group(), answer(desk, call.group(1), numbers(call.group(2))), Long.parseLong(call.group(3)));
            calls++;
        }
        checks.due("each line behind the first two is a call", calls, code.lines().count() - 2);
    }

    private static Object[] numbers(String list) {
        return list.isEmpty() ? new Object[0] : Arrays.stream(list.split(", ")).map(Integer::valueOf).toArray();
    }

    private static int answer(FeedDesk desk, String name, Object... arguments) throws ReflectiveOperationException {
        Class<?>[] kinds = new Class<?>[arguments.length];
        Arrays.fill(kinds, int.class);
        return (Integer) FeedDesk.class.getMethod(name, kinds).invoke(desk, arguments);
    }

    // ---- the tables

    private static void errorCodes(String page) throws ReflectiveOperationException {
        checks.part("the error codes");
        int found = 0;
        for (Field field : FeedDesk.class.getFields()) {
            found++;
            checks.holds(field.getName(), page.contains("\n| " + field.getInt(null) + " | `" + field.getName() + "` | "));
        }
        checks.due("error codes", found, 4);
    }

    private static void calls(String page, String source) throws ReflectiveOperationException {
        checks.part("the calls");
        List<String> want = new ArrayList<>();
        Matcher head = Pattern.compile("(?m)^    public int (\\w+)\\((.*)\\) \\{$").matcher(source);
        while (head.find()) want.add(call(head.group(1), head.group(2).replace("int ", "")));
        List<String> got = new ArrayList<>();
        Matcher row = Pattern.compile("(?m)^\\| (`\\w+\\([a-z, ]*\\)`( \\*)?) \\|.*\\|$").matcher(page);
        while (row.find()) got.add(row.group(1) + (row.group().matches(".*\\| -1(, [^|]*)? \\|$") ? " -1" : ""));
        checks.same("calls, in the order of the document", String.join("\n", got), String.join("\n", want));
        long methods = Stream.of(FeedDesk.class.getDeclaredMethods())
            .filter(one -> Modifier.isPublic(one.getModifiers())).count();
        checks.due("all methods", want.size(), methods);
    }

    /** A call as its row tells it: with a star if it is an action, and -1 if it answers that to wrong arguments. */
    private static String call(String name, String parameters) throws ReflectiveOperationException {
        Object[] ones = new Object[parameters.isEmpty() ? 0 : parameters.split(", ").length];
        Arrays.fill(ones, 1);
        FeedDesk desk = new FeedDesk();
        desk.store(1);
        answer(desk, name, ones);
        Object[] wrong = new Object[ones.length];
        Arrays.fill(wrong, -5);
        boolean isRefused = answer(new FeedDesk(), name, wrong) == FeedDesk.INVALID_ARGUMENT;
        return "`" + name + "(" + parameters + ")`" + (desk.count(9) == 2 ? " *" : "") + (isRefused ? " -1" : "");
    }

    // ---- the tests

    private static void howToRun(String page) throws IOException {
        checks.part("how to run its tests");
        checks.holds("the command", page.contains("\n    .ci/run\n") && Files.exists(Path.of(".ci/run")));
        TreeSet<String> files = new TreeSet<>();
        try (Stream<Path> tests = Files.list(TESTS)) {
            tests.forEach(test -> files.add(test.getFileName().toString().replace(".java", "")));
        }
        checks.holds("there are tests", files.size() > 5);
        for (String file : files) checks.holds(file + " is named", page.contains("`" + file + "`"));
    }
}
