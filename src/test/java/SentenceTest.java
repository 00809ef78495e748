import java.io.IOException;
import java.lang.reflect.InvocationTargetException;
import java.lang.reflect.Method;
import java.nio.file.Files;
import java.nio.file.Path;
import java.util.Arrays;
import java.util.Comparator;
import java.util.LinkedHashMap;
import java.util.List;
import java.util.Map;

/**
 * The document sentence by sentence: each test names words of it and is run by itself, and all words
 * of the terms and of the promises are named by some test.
 */
public final class SentenceTest {
    private static final Path DOCUMENT = Path.of("../shared/DOC.md");
    private static final List<Class<?>> TESTS = List.of(TermSentences.class, ShotSentences.class,
        HeadSentences.class, BlinkSentences.class, OddsSentences.class, StairSentences.class);
    /** The overview at the document's top says nothing that is not said below it. */
    private static final String OVERVIEW = "What it is";

    private final Map<String, StringBuilder> places = new LinkedHashMap<>();
    private final Map<String, boolean[]> named = new LinkedHashMap<>();
    private int right = 0;
    private int wrong = 0;

    public static void main(String[] args) throws IOException, IllegalAccessException {
        new SentenceTest().go();
    }

    private void go() throws IOException, IllegalAccessException {
        read(Files.readAllLines(DOCUMENT));
        for (String at : places.keySet()) named.put(at, new boolean[places.get(at).length()]);
        for (Class<?> tests : TESTS) runAll(tests);
        for (String at : places.keySet()) count(isNamed(at), at + " has words that no test names");
        System.out.println("SentenceTest: " + right + " hold, " + wrong + " do not");
        if (wrong != 0) System.exit(1);
    }

    private void count(boolean holds, String what) {
        if (holds) right++;
        else wrong++;
        if (!holds) System.out.println("BROKEN: " + what);
    }

    /** Places are the headings, and within the terms their sections 1 to 5 and the constants. */
    private void read(List<String> lines) {
        String at = "";
        for (String line : lines) {
            if (line.startsWith("## ")) at = line.substring(3).replaceAll(":.*", "");
            boolean terms = at.matches("Terms|\\d|Constants");
            if (terms && line.startsWith("======== ")) at = line.substring(9, 10);
            if (terms && line.startsWith("The constants:")) at = "Constants";
            if (line.startsWith("#") || line.startsWith("```") || line.startsWith("Ahead of the calls")) continue;
            if (!at.matches("Terms|\\d|Constants|Promise \\d+|" + OVERVIEW)) continue;
            if (line.isBlank()) continue;
            String words = line.replaceAll("^(======== \\d |`\\w+ \\w+\\(.*?\\)`: |`OpenEyes\\(\\)`: )", "").trim();
            places.computeIfAbsent(at, key -> new StringBuilder()).append(words).append(' ');
        }
    }

    private void runAll(Class<?> tests) throws IllegalAccessException {
        Method[] methods = tests.getDeclaredMethods();
        Arrays.sort(methods, Comparator.comparing(Method::getName));
        for (Method method : methods) {
            Says says = method.getAnnotation(Says.class);
            if (says == null) continue;
            String name = says.at() + ", '" + says.words() + "' (" + tests.getName() + "." + method.getName() + ")";
            count(name(says), name + ": the document does not say this there, once");
            count(holds(method), name);
        }
    }

    private static boolean holds(Method test) throws IllegalAccessException {
        Check check = new Check();
        try {
            test.invoke(null, check);
        } catch (InvocationTargetException thrown) {
            System.out.println(test.getName() + " threw " + thrown.getCause());
            return false;
        }
        return check.isRight();
    }

    private boolean name(Says says) {
        StringBuilder text = places.get(says.at());
        if (text == null) return false;
        int from = text.indexOf(says.words());
        if (from < 0 || text.indexOf(says.words(), from + 1) >= 0) return false;
        Arrays.fill(named.get(says.at()), from, from + says.words().length(), true);
        return true;
    }

    private boolean isNamed(String at) {
        StringBuilder left = new StringBuilder();
        boolean[] marks = named.get(at);
        for (int i = 0; i < marks.length; i++) left.append(marks[i] ? ' ' : places.get(at).charAt(i));
        String words = left.toString().replaceAll("[ .,;:]+", " ").trim();
        if (words.isEmpty() || at.equals(OVERVIEW)) return true;
        System.out.println(at + ": " + words);
        return false;
    }
}
