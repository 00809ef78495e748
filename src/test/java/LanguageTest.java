import java.io.IOException;
import java.lang.reflect.Constructor;
import java.lang.reflect.Field;
import java.lang.reflect.Method;
import java.lang.reflect.Modifier;
import java.nio.charset.StandardCharsets;
import java.nio.file.Files;
import java.nio.file.Path;
import java.util.ArrayList;
import java.util.List;
import java.util.Set;
import java.util.TreeSet;
import java.util.regex.Matcher;
import java.util.regex.Pattern;

/** The rules of LANGUAGE.md that can be seen in the text of the file or in the class made of it. */
public final class LanguageTest {
    private static final Path SOURCE = Path.of("src/main/java/OpenEyes.java");
    private static final Check check = new Check();

    public static void main(String[] args) throws IOException {
        String text = Files.readString(SOURCE, StandardCharsets.UTF_8);
        for (char c : text.toCharArray()) {
            if (c > 126 || c < 32 && c != '\n') check.holds("a sign of code " + (int) c, false);
        }
        String code = bare(text);
        words(code);
        library(code);
        List<Class<?>> classes = new ArrayList<>(List.of(OpenEyes.class));
        classes.addAll(List.of(OpenEyes.class.getDeclaredClasses()));
        check.holds("rule 11: at most twelve classes", classes.size() <= 12);
        for (Class<?> c : classes) members(c);
        lengths(text);
        check.end("LanguageTest");
    }

    /** The text without comments, strings and signs in quotes. */
    private static String bare(String text) {
        String code = text.replaceAll("(?s)/\\*.*?\\*/", " ").replaceAll("//[^\n]*", " ");
        return code.replaceAll("\"[^\"\n]*\"", "\"\"").replaceAll("'[^'\n]*'", "0");
    }

    private static void words(String code) {
        String[] ruledOut = {"throw", "throws", "try", "catch", "finally", "synchronized", "assert", "import",
            "package", "protected", "volatile", "native", "transient", "Object", "Exception", "Thread", "Random",
            "equals", "hashCode", "toString", "getClass", "yield", "var"};
        for (String word : ruledOut) {
            check.holds("the word " + word, !Pattern.compile("\\b" + word + "\\b").matcher(code).find());
        }
        check.holds("a lambda or an arrow", !code.contains("->"));
        check.holds("a method reference", !code.contains("::"));
        check.holds("a static block", !Pattern.compile("\\bstatic\\s*\\{").matcher(code).find());
        check.holds("a mark", !code.contains("@"));
    }

    private static void library(String code) {
        Set<String> allowed = Set.of("Integer.bitCount", "Integer.numberOfTrailingZeros", "Math.min", "Math.max",
            "Math.abs", "System.arraycopy");
        Matcher m = Pattern.compile("\\b(Integer|Long|Math|System|Arrays|String|StringBuilder|List|ArrayList)\\.\\w+")
            .matcher(code);
        Set<String> used = new TreeSet<>();
        while (m.find()) used.add(m.group());
        for (String name : used) check.holds("the library's " + name, allowed.contains(name));
    }

    private static void members(Class<?> c) {
        Set<String> face = new TreeSet<>();
        for (Method m : OpenEyes.class.getDeclaredMethods()) {
            if (Modifier.isPublic(m.getModifiers())) face.add(m.getName());
        }
        for (Method m : c.getDeclaredMethods()) {
            String name = c.getSimpleName() + "." + m.getName();
            check.holds("rule 11: parameters of " + name, m.getParameterCount() <= 7);
            if (c == OpenEyes.class && Modifier.isPublic(m.getModifiers())) continue;
            check.holds("rule 1: a name of the face: " + name, !face.contains(m.getName()));
            if (c == OpenEyes.class) check.holds("rule 1: " + name, Modifier.isPrivate(m.getModifiers()));
        }
        int fields = 0;
        for (Field f : c.getDeclaredFields()) {
            boolean isStatic = Modifier.isStatic(f.getModifiers());
            if (!isStatic) fields++;
            if (isStatic) check.holds("rule 5: " + f, Modifier.isFinal(f.getModifiers()));
            if (c == OpenEyes.class && !isStatic) check.holds("rule 1: " + f, Modifier.isPrivate(f.getModifiers()));
        }
        check.holds("rule 11: fields of " + c, fields <= 20);
        if (c != OpenEyes.class) check.holds("rule 2: " + c, Modifier.isStatic(c.getModifiers()));
        for (Constructor<?> made : c.getDeclaredConstructors()) {
            check.holds("rule 11: parameters of " + made, made.getParameterCount() <= 7);
        }
    }

    /** A method begins with a line that ends in ") {" at one of the two depths of members. */
    private static void lengths(String text) {
        String[] lines = text.split("\n");
        Pattern head = Pattern.compile("^( {4}| {8})\\w[\\w\\[\\] ]*\\(.*\\) \\{$");
        for (int i = 0; i < lines.length; i++) {
            Matcher m = head.matcher(lines[i]);
            if (!m.find() || lines[i].trim().matches("(if|for|while|switch)\\b.*")) continue;
            int end = i;
            while (end < lines.length && !lines[end].equals(m.group(1) + "}")) end++;
            check.holds("rule 11: length of " + lines[i].trim(), end - i + 1 <= 60);
        }
    }
}
