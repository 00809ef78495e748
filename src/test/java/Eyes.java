import java.util.List;
import java.util.TreeSet;
import java.util.function.IntToLongFunction;

/** What tests by hand share: short names, and objects made ready. */
abstract class Eyes {
    static final int UNKNOWN = -1, OUTSIDE = -2, STATE = -3, FULL = -4, NO = -5, NONE = -6;
    static final long GONE_OUTSIDE = -1000000000000000002L;
    static final int LOW = Integer.MIN_VALUE, HIGH = Integer.MAX_VALUE;

    /** The pad holds this text, and nothing else. */
    static void write(OpenEyes x, String text) {
        x.wipe();
        for (int i = 0; i < text.length(); i++) x.say(text.charAt(i));
    }

    static OpenEyes people(int n) {
        OpenEyes x = new OpenEyes();
        x.people(n);
        return x;
    }

    /** An object with as many people as the first shot has looks, and these shots. */
    static OpenEyes with(String... shots) {
        OpenEyes x = people(shots[0].length());
        for (String text : shots) {
            write(x, text);
            x.shot();
        }
        if (x.told(2) != shots.length) throw new IllegalStateException("not all shots were taken");
        return x;
    }

    static OpenEyes stairOf(int people, int rows, int columns) {
        OpenEyes x = people(people);
        x.stair(rows, columns);
        return x;
    }

    static void faults(Check c, OpenEyes x, int how, String text, int fault) {
        write(x, text);
        c.due("the fault of '" + text + "'", x.fault(how), fault);
    }

    static void headsAre(Check c, String name, OpenEyes x, int cuts, int... shots) {
        c.due(name + ": cuts", x.heads(-1), cuts);
        for (int k = 0; k < shots.length; k++) c.due(name + ": head " + k, x.heads(k), shots[k]);
    }

    static void judged(Check c, String name, OpenEyes x, String standing, int person, int what) {
        write(x, standing);
        c.due(name + ": " + standing + ", person", x.judge(0), person);
        c.due(name + ": " + standing + ", what", x.judge(1), what);
    }

    static void fraction(Check c, String name, long upper, long lower, long wantUpper, long wantLower) {
        c.due(name + ": upper", upper, wantUpper);
        c.due(name + ": lower", lower, wantLower);
    }

    /** From least to most the numbers are taken, those beside and far away are refused. */
    static void span(Check c, String name, int least, int most, long refusal, IntToLongFunction call) {
        for (int v : new TreeSet<>(List.of(least, most, least + (most - least) / 2))) {
            c.holds(name + " " + v + " is taken", call.applyAsLong(v) != refusal);
        }
        refused(c, name, refusal, call, least - 1, most + 1, LOW, LOW + 1, HIGH, HIGH - 1);
        // Numbers that look the same where only their low bits are looked at.
        refused(c, name, refusal, call, least + 65536, most - 65536, least + (1 << 30), LOW + most);
    }

    static void refused(Check c, String name, long refusal, IntToLongFunction call, int... numbers) {
        for (int v : numbers) c.due(name + " " + v, call.applyAsLong(v), refusal);
    }
}
