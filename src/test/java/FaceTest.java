import java.io.IOException;
import java.lang.reflect.Constructor;
import java.lang.reflect.Field;
import java.lang.reflect.Method;
import java.lang.reflect.Modifier;
import java.nio.file.Files;
import java.nio.file.Path;
import java.util.Arrays;
import java.util.Map;
import java.util.Set;
import java.util.TreeMap;
import java.util.TreeSet;
import java.util.regex.Matcher;
import java.util.regex.Pattern;
import java.util.stream.Collectors;

/** The class has the document's public face: its names, values, signatures and their order, and no more. */
public final class FaceTest {
    private static final Path DOCUMENT = Path.of("../shared/DOC.md");
    private static final Path SOURCE = Path.of("src/main/java/OpenEyes.java");
    private static final Check check = new Check();

    public static void main(String[] args) throws IOException, IllegalAccessException {
        String document = Files.readString(DOCUMENT);
        String source = Files.readString(SOURCE);
        String face = blockBehind(document, "## The public face");
        check.holds("the class is declared as the document has it", source.contains(face.lines().findFirst().get()));
        check.holds("it extends and implements nothing", OpenEyes.class.getSuperclass() == Object.class
            && OpenEyes.class.getInterfaces().length == 0);
        constants(face);
        calls(face);
        order(face, source);
        headings(document, source);
        check.end("FaceTest");
    }

    private static String blockBehind(String document, String heading) {
        int from = document.indexOf("```java\n", document.indexOf(heading)) + "```java\n".length();
        return document.substring(from, document.indexOf("```", from));
    }

    private static boolean isSeen(int modifiers) {
        return !Modifier.isPrivate(modifiers);
    }

    private static void constants(String face) throws IllegalAccessException {
        Map<String, String> asked = new TreeMap<>();
        Matcher line = Pattern.compile("public static final (int|long) (.*);").matcher(face);
        while (line.find()) {
            for (String one : line.group(2).split(", ")) {
                String[] sides = one.split(" = ");
                asked.put(sides[0], line.group(1) + " " + sides[1].replace("L", ""));
            }
        }
        Map<String, String> there = new TreeMap<>();
        for (Field f : OpenEyes.class.getDeclaredFields()) {
            if (!isSeen(f.getModifiers())) continue;
            check.due("modifiers of " + f.getName(), f.getModifiers(), Modifier.PUBLIC | Modifier.STATIC | Modifier.FINAL);
            there.put(f.getName(), f.getType() + " " + f.get(null));
        }
        check.due("constants of the document", asked.size(), 7);
        check.holds("the constants " + there + " are " + asked, there.equals(asked));
    }

    private static void calls(String face) {
        Set<String> asked = new TreeSet<>();
        Matcher line = Pattern.compile("public ((?:int |long )?\\w+)\\((.*)\\);").matcher(face);
        while (line.find()) asked.add(line.group(1) + "(" + line.group(2).replaceAll(" \\w+(?=,|$)", "") + ")");
        Set<String> there = new TreeSet<>();
        for (Constructor<?> made : OpenEyes.class.getDeclaredConstructors()) {
            if (!isSeen(made.getModifiers())) continue;
            check.due("modifiers of the constructor", made.getModifiers(), Modifier.PUBLIC);
            there.add("OpenEyes(" + types(made.getParameterTypes()) + ")");
        }
        for (Method m : OpenEyes.class.getDeclaredMethods()) {
            if (!isSeen(m.getModifiers()) || m.isSynthetic()) continue;
            check.due("modifiers of " + m.getName(), m.getModifiers(), Modifier.PUBLIC);
            there.add(m.getReturnType() + " " + m.getName() + "(" + types(m.getParameterTypes()) + ")");
        }
        check.due("the constructor and the calls of the document", asked.size(), 31);
        check.holds("the calls " + there + " are " + asked, there.equals(asked));
    }

    private static String types(Class<?>[] types) {
        return Arrays.stream(types).map(Class::getName).collect(Collectors.joining(", "));
    }

    /** Each line of the face stands in the source as it is, the names of parameters too, and in its order. */
    private static void order(String face, String source) {
        int from = 0;
        for (String line : face.lines().toList()) {
            String declared = line.replaceAll("\\);$", ") {");
            int at = source.indexOf(declared + "\n", from);
            check.holds("in its place: " + line.trim(), at >= 0 || line.equals("}"));
            from = Math.max(from, at);
        }
    }

    private static void headings(String document, String source) {
        Matcher line = Pattern.compile("Ahead of the calls `(\\w+)`.* the interface says: (.*)\\.\n").matcher(document);
        int found = 0;
        while (line.find()) {
            found++;
            String ahead = "// " + line.group(2) + "\n\n    public int " + line.group(1) + "(";
            check.holds("'" + line.group(2) + "' ahead of " + line.group(1), source.contains(ahead));
        }
        check.due("headings of the document", found, 5);
    }
}
