import java.lang.reflect.InvocationTargetException;
import java.lang.reflect.Method;
import java.util.Arrays;
import java.util.Comparator;
import java.util.HashMap;
import java.util.HashSet;
import java.util.Map;
import java.util.Random;
import java.util.Set;

/**
 * Each call answers below 0 only what its own promise names, for any arguments in any state, and
 * each of what is named is met; no call throws.
 */
public final class RefusalTest {
    private static final int RUNS = 2000;
    private static final int STEPS = 130;
    private static final long U = OpenEyes.UNKNOWN, O = OpenEyes.OUTSIDE, S = OpenEyes.STATE;
    private static final long F = OpenEyes.FULL, N = OpenEyes.NO, NONE = OpenEyes.NONE;
    private static final long NO_FLASH = -1;
    private static final Check check = new Check();
    private static final Map<String, Set<Long>> named = new HashMap<>();
    private static final Map<String, Set<Long>> met = new HashMap<>();

    public static void main(String[] args) throws IllegalAccessException {
        nameAll();
        Method[] methods = OpenEyes.class.getDeclaredMethods();
        // The machine gives them in no order of its own: each run is to make the same calls.
        Arrays.sort(methods, Comparator.comparing(Method::getName));
        for (int seed = 0; seed < RUNS; seed++) run(methods, new Random(seed), seed % 2 == 0);
        for (String call : named.keySet()) {
            for (long answer : named.get(call)) {
                check.holds(call + " is seen to answer " + answer, met.get(call).contains(answer));
            }
        }
        check.end("RefusalTest");
    }

    private static void name(String call, long... answers) {
        Set<Long> set = new HashSet<>();
        for (long answer : answers) set.add(answer);
        named.put(call, set);
        met.put(call, new HashSet<>());
    }

    private static void nameAll() {
        name("people", O);
        name("bride", U, NONE);
        name("say", O, F);
        name("wipe");
        name("fault", O, NONE);
        name("shot", N, F);
        name("look", U);
        name("single", O, NONE);
        name("cover", NONE);
        name("spoils", O, NONE);
        name("hands", O);
        name("heads", NONE);
        name("left", NONE);
        name("blink", U, O);
        name("flash", O, NO_FLASH);
        name("open", O);
        name("fire", O);
        name("bad", U, O);
        name("likely", OpenEyes.GONE + O);
        name("one", OpenEyes.GONE + O);
        name("many", O, NONE);
        name("shoot", O, NONE);
        name("stair", O);
        name("tall", U, O);
        name("pair", U, O);
        name("judge", O, N, NONE);
        name("placed", S, NONE);
        name("image", O);
        name("restore", O, S);
        name("told", O, NONE, NO_FLASH);
    }

    private static void run(Method[] methods, Random random, boolean fewShots) throws IllegalAccessException {
        OpenEyes x = new OpenEyes();
        for (int step = 0; step < STEPS; step++) {
            if (random.nextInt(5) == 0) {
                write(x, new String[] {"o", "osth", "01234567"}[random.nextInt(3)], random);
                if (!fewShots || random.nextInt(9) == 0) keep("shot", x.shot());
            }
            Method method = methods[random.nextInt(methods.length)];
            // PEOPLE told anew are without shots: as often as other calls, it would leave none to ask of.
            if (method.getName().equals("people") && random.nextInt(9) != 0) continue;
            if (named.containsKey(method.getName())) call(x, method, random);
        }
    }

    /** Mostly as many signs as there are people, now and then more than the pad takes. */
    private static void write(OpenEyes x, String signs, Random random) {
        x.wipe();
        int length = random.nextInt(9) == 0 ? random.nextInt(44) : x.told(1);
        int from = random.nextInt(signs.length());
        for (int i = 0; i < length; i++) keep("say", x.say(signs.charAt((from + i) % signs.length())));
    }

    private static void call(OpenEyes x, Method method, Random random) throws IllegalAccessException {
        Object[] arguments = new Object[method.getParameterCount()];
        for (int i = 0; i < arguments.length; i++) arguments[i] = argument(random);
        try {
            keep(method.getName(), ((Number) method.invoke(x, arguments)).longValue());
        } catch (InvocationTargetException thrown) {
            check.due(method.getName() + " threw " + thrown.getCause(), 1, 0);
        }
    }

    private static int argument(Random random) {
        int kind = random.nextInt(20);
        if (kind == 0) return random.nextInt();
        if (kind == 1) return Integer.MIN_VALUE + random.nextInt(30);
        if (kind == 2) return Integer.MAX_VALUE - random.nextInt(30);
        if (kind < 6) return random.nextInt(1100) - 50;
        if (kind < 10) return random.nextInt(40) - 4;
        return random.nextInt(5) - 1;
    }

    private static void keep(String call, long answer) {
        if (answer >= 0) return;
        met.get(call).add(answer);
        if (!named.get(call).contains(answer)) check.due(call + " names no such refusal", answer, 0);
    }
}
