import java.io.IOException;
import java.lang.reflect.Method;
import java.nio.file.Files;
import java.nio.file.Path;
import java.util.ArrayList;
import java.util.Arrays;
import java.util.List;
import java.util.Set;
import java.util.TreeSet;
import java.util.regex.Matcher;
import java.util.regex.Pattern;
import java.util.stream.Collectors;
import java.util.stream.Stream;

/** What README.md says is so: its calls answer as it says, and it names the tests that there are. */
public final class ReadmeTest {
    private static final Path PAGE = Path.of("README.md");
    private static final Path TESTS = Path.of("src/test/java");
    private static final String COMMAND = ".ci/run";
    private static final Pattern CALL = Pattern.compile("x\\.(\\w+)\\(([^()]*)\\);");
    /** Calls of an object in one line, then an answer for each, then words, if any. */
    private static final Pattern LINE = Pattern.compile("((?:x\\.\\w+\\([^()]*\\); *)+)// ([^:]*)(?:: .*)?");
    private static final Check check = new Check();
    private static final Set<String> shown = new TreeSet<>();

    private OpenEyes x;

    public static void main(String[] args) throws IOException, ReflectiveOperationException {
        String page = Files.readString(PAGE);
        Matcher block = Pattern.compile("(?s)```java\n(.*?)```").matcher(page);
        int blocks = 0;
        while (block.find()) {
            blocks++;
            new ReadmeTest().run(block.group(1).lines().toList());
        }
        check.holds("there are calls to make", blocks > 0);
        check.holds("each call is shown: " + shown, shown.equals(face()));
        tests(page);
        command(page);
        check.end("ReadmeTest");
    }

    private void run(List<String> lines) throws ReflectiveOperationException {
        for (String line : lines) {
            if (line.equals("OpenEyes x = new OpenEyes();")) x = new OpenEyes();
            else line(line);
        }
    }

    private void line(String line) throws ReflectiveOperationException {
        Matcher m = LINE.matcher(line);
        boolean read = x != null && m.matches();
        check.holds("this line can be read: " + line, read);
        if (!read) return;
        List<Long> answers = new ArrayList<>();
        Matcher call = CALL.matcher(m.group(1));
        while (call.find()) answers.add(answer(call.group(1), call.group(2)));
        String[] told = m.group(2).trim().split(", ");
        check.due("answers told in " + line, told.length, answers.size());
        for (int i = 0; i < told.length && i < answers.size(); i++) check.due(line, answers.get(i), number(told[i]));
    }

    private long answer(String name, String arguments) throws ReflectiveOperationException {
        shown.add(name);
        String[] texts = arguments.isEmpty() ? new String[0] : arguments.split(", ");
        Object[] values = new Object[texts.length];
        for (int i = 0; i < texts.length; i++) {
            boolean quoted = texts[i].matches("'.'");
            values[i] = quoted ? (int) texts[i].charAt(1) : Integer.parseInt(texts[i]);
        }
        Class<?>[] types = new Class<?>[texts.length];
        Arrays.fill(types, int.class);
        return ((Number) OpenEyes.class.getMethod(name, types).invoke(x, values)).longValue();
    }

    /** A number, a constant of the class, or a sum of these. */
    private static long number(String text) throws ReflectiveOperationException {
        long sum = 0;
        for (String part : text.split(" \\+ ")) {
            boolean digits = part.matches("-?\\d+");
            sum += digits ? Long.parseLong(part) : ((Number) OpenEyes.class.getField(part).get(null)).longValue();
        }
        return sum;
    }

    private static Set<String> face() {
        return Stream.of(OpenEyes.class.getMethods()).filter(m -> m.getDeclaringClass() == OpenEyes.class)
            .map(Method::getName).collect(Collectors.toCollection(TreeSet::new));
    }

    private static void tests(String page) throws IOException {
        Set<String> named = new TreeSet<>();
        Matcher m = Pattern.compile("(?m)^- `(\\w+Test)`: ").matcher(page);
        while (m.find()) named.add(m.group(1));
        try (Stream<Path> files = Files.list(TESTS)) {
            Set<String> there = files.map(file -> file.getFileName().toString())
                .filter(name -> name.endsWith("Test.java")).map(name -> name.replace(".java", ""))
                .collect(Collectors.toCollection(TreeSet::new));
            check.holds("the tests named " + named + " are " + there, named.equals(there));
        }
    }

    private static void command(String page) throws IOException {
        check.holds("the page names " + COMMAND, page.contains("\n    " + COMMAND + "\n"));
        check.holds(COMMAND + " can be run", Files.isExecutable(Path.of(COMMAND)));
        String script = Files.readString(Path.of(COMMAND));
        check.holds("it runs the project's tests", script.contains("src/test/java/*Test.java"));
        check.holds("it runs the shared tests", script.contains("../shared/tests"));
    }
}
