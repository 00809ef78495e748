import java.util.LinkedHashMap;
import java.util.Map;
import java.util.function.ToLongFunction;

/** The sentences that hold for all calls: how long an object is used, refusals, fractions, constants. */
final class TermSentences extends Eyes {
    private static final String ORDER = "Calls that are refused answer, the first of these that fits:";
    private static final String FRACTIONS = "Fractions are told in lowest terms by part: 0 the upper, 1 the lower number;";

    @Says(at = "What it is", words = "An object is used for at most 512 calls after it has been made;"
        + " what later calls answer is free.")
    static void theLastOf512Calls(Check c) {
        c.due("cover", worn().cover(), 3);
        c.due("heads", worn().heads(-1), 1);
        c.due("placed", worn().placed(-1), 30);
        c.due("restore", worn().restore(0), 1);
        c.due("told", worn().told(2), 10);
        c.due("say", worn().say('o'), 1);
        c.due("one", worn().one(3, 1), 4096);
        c.due("shot of nothing", worn().shot(), NO);
    }

    /** After 511 calls: two people, ten shots, two images, and the dearest things asked again and again. */
    private static OpenEyes worn() {
        OpenEyes x = people(2);
        int calls = 1;
        for (int s = 0; s < 10; s++) {
            x.say(s % 2 == 0 ? 'o' : 's');
            x.say(s % 2 == 0 ? 's' : 'o');
            x.shot();
            calls += 3;
        }
        for (int i = 0; calls < 511; i++, calls++) {
            if (i % 4 == 0) x.tall(0, 165 + i % 5);
            else if (i % 4 == 1) x.placed(-1);
            else if (i % 4 == 2) x.image(i / 4 % 2);
            else x.heads(0);
        }
        return x;
    }

    @Says(at = "Terms", words = ORDER)
    static void unknownComesBeforeOutside(Check c) {
        OpenEyes x = new OpenEyes();
        c.due("blink, all wrong", x.blink(4, 3, 99), UNKNOWN);
        c.due("blink, what", x.blink(-1, -1, 5), UNKNOWN);
        c.due("blink, value", x.blink(4, 0, 61), UNKNOWN);
        c.due("bad", x.bad(4, 5), UNKNOWN);
        c.due("bad, below", x.bad(-2, -1), UNKNOWN);
        c.due("tall", x.tall(4, 251), UNKNOWN);
        c.due("tall, below", x.tall(-2, -1), UNKNOWN);
        c.due("pair, the one", x.pair(4, 0, 3), UNKNOWN);
        c.due("pair, the other", x.pair(0, 4, -1), UNKNOWN);
        c.due("pair, both are one", x.pair(2, 2, 3), UNKNOWN);
    }

    @Says(at = "Terms", words = ORDER)
    static void outsideComesBeforeState(Check c) {
        refused(c, "restore, nothing kept:", OUTSIDE, v -> new OpenEyes().restore(v), -1, 2, LOW, HIGH);
    }

    @Says(at = "Terms", words = ORDER)
    static void outsideComesBeforeNo(Check c) {
        refused(c, "judge, an empty pad:", OUTSIDE, v -> new OpenEyes().judge(v), -1, 2, LOW, HIGH);
    }

    @Says(at = "Terms", words = ORDER)
    static void outsideComesBeforeFull(Check c) {
        OpenEyes x = new OpenEyes();
        for (int i = 0; i < 40; i++) x.say('o');
        refused(c, "say, a full pad:", OUTSIDE, x::say, 32, 127, LOW, HIGH);
    }

    @Says(at = "Terms", words = ORDER)
    static void noComesBeforeFull(Check c) {
        OpenEyes x = with("o", "o", "o", "o", "o", "o", "o", "o", "o", "o");
        for (String text : new String[] {"", "x", "oo"}) {
            write(x, text);
            c.due("an eleventh shot of '" + text + "'", x.shot(), NO);
        }
        write(x, "o");
        c.due("an eleventh shot without a fault", x.shot(), FULL);
    }

    @Says(at = "Terms", words = "UNKNOWN -1 (there is no such PERSON, SHOT, PLACE)")
    static void noSuchPersonOrShot(Check c) {
        for (int n = 1; n <= 8; n++) {
            String shot = "oooooooo".substring(0, n);
            for (int k : new int[] {n, n + 1, 8, -2, LOW, HIGH}) {
                OpenEyes x = with(shot);
                c.due("bride " + k + " of " + n, x.bride(k), -1);
                c.due("look at " + k + " of " + n, x.look(0, k), -1);
                c.due("look at shot " + k, x.look(k, 0), -1);
                c.due("blink " + k + " of " + n, x.blink(k, 0, 30), -1);
                c.due("bad " + k + " of " + n, x.bad(k, 1), -1);
                c.due("tall " + k + " of " + n, x.tall(k, 170), -1);
                c.due("pair " + k + " of " + n, x.pair(k, 0, 0), -1);
                c.due("pair 0 and " + k + " of " + n, x.pair(0, k, 0), -1);
            }
        }
    }

    @Says(at = "Terms", words = "OUTSIDE -2 (another number is not as told)")
    static void anotherNumberIsNotAsTold(Check c) {
        Map<String, ToLongFunction<OpenEyes>> calls = new LinkedHashMap<>();
        outside(calls);
        for (String name : calls.keySet()) {
            long answer = calls.get(name).applyAsLong(new OpenEyes());
            c.due(name, answer, name.startsWith("fraction") ? GONE_OUTSIDE : -2);
        }
    }

    @Says(at = "Terms", words = "STATE -3 (as told)")
    static void stateAsTold(Check c) {
        c.due("restore", new OpenEyes().restore(0), -3);
        c.due("placed", stairOf(2, 1, 1).placed(-1), -3);
    }

    @Says(at = "Terms", words = "NO -5 (as told)")
    static void noAsTold(Check c) {
        c.due("shot", new OpenEyes().shot(), -5);
        c.due("judge", new OpenEyes().judge(0), -5);
    }

    @Says(at = "Terms", words = "FULL -4.")
    static void fullPadAndFullShots(Check c) {
        OpenEyes x = with("o", "o", "o", "o", "o", "o", "o", "o", "o", "o");
        x.say('o');
        c.due("shot", x.shot(), -4);
        for (int i = 1; i < 40; i++) x.say('o');
        c.due("say", x.say('o'), -4);
    }

    @Says(at = "Terms", words = "They change nothing.")
    static void refusedCallsChangeNothing(Check c) {
        Map<String, ToLongFunction<OpenEyes>> calls = new LinkedHashMap<>();
        unknown(calls);
        outside(calls);
        calls.put("restore 1", x -> x.restore(1));
        calls.put("shot with a fault", x -> x.shot());
        calls.put("judge with a fault", x -> x.judge(0));
        calls.put("what with a fault", x -> x.judge(1));
        String untouched = all(ready());
        for (String name : calls.keySet()) {
            OpenEyes x = ready();
            c.holds(name + " is refused", calls.get(name).applyAsLong(x) < 0);
            c.holds(name + " changes nothing", all(x).equals(untouched));
        }
    }

    @Says(at = "Terms", words = "They change nothing.")
    static void callsOfAFullObjectChangeNothing(Check c) {
        String untouched = all(full());
        OpenEyes x = full();
        c.due("shot", x.shot(), FULL);
        c.holds("a shot too many changes nothing", all(x).equals(untouched));
        x = full();
        while (x.told(0) < 40) x.say('z');
        c.due("say", x.say('o'), FULL);
        c.due("signs", x.told(0), 40);
        c.due("the pad is as it was", x.fault(0), 3);
        x = stairOf(3, 1, 2);
        untouched = all(x);
        x = stairOf(3, 1, 2);
        c.due("placed", x.placed(-1), STATE);
        c.due("placed of one", x.placed(1), STATE);
        c.holds("too few places change nothing", all(x).equals(untouched));
    }

    private static OpenEyes full() {
        OpenEyes x = with("oso", "soo", "oos", "ttt", "hhh", "sss", "ooo", "oht", "hto", "tto");
        write(x, "sss");
        return x;
    }

    /** Everything is set to what it is not at first; image 0 is kept, and differs; image 1 is not. */
    private static OpenEyes ready() {
        OpenEyes x = with("osh", "too");
        x.image(0);
        x.bride(1);
        x.hands(2);
        x.blink(0, 0, 20);
        x.blink(0, 1, 5);
        x.blink(0, 2, 7);
        x.flash(11);
        x.bad(0, 2);
        x.bad(-1, 1);
        x.stair(2, 2);
        x.tall(0, 185);
        x.tall(-1, 12);
        x.pair(0, 1, 1);
        x.pair(1, 2, 2);
        write(x, "02");
        return x;
    }

    /** All that an object tells, as one text; the object is spent by it. */
    private static String all(OpenEyes x) {
        StringBuilder text = new StringBuilder();
        append(text, x.fault(0), x.fault(1), x.judge(0), x.judge(1));
        kept(text, x);
        append(text, x.restore(1), x.restore(0));
        kept(text, x);
        append(text, x.wipe());
        return text.toString();
    }

    private static void kept(StringBuilder text, OpenEyes x) {
        for (int what = 0; what <= 30; what++) append(text, x.told(what));
        for (int s = 0; s < 10; s++) append(text, x.look(s, 0), x.look(s, 1), x.look(s, 2));
        append(text, x.single(0), x.single(1), x.cover(), x.spoils(0), x.spoils(1), x.left());
        for (int i = -1; i < 3; i++) append(text, x.heads(i), x.placed(i));
        append(text, x.fire(0, 99, 0), x.fire(0, 99, 1), x.fire(0, 999, 2), x.open(12), x.open(13), x.open(14));
        append(text, x.likely(0, 0), x.likely(1, 0), x.one(3, 0), x.one(3, 1), x.shoot(7, 30, 1));
        for (int k = 0; k < 3; k++) {
            append(text, x.blink(k, 1, 0), x.blink(k, 0, 60), x.blink(k, 2, 0));
            append(text, k == 2 ? 0 : x.pair(k, 2, 0), k == 1 ? 0 : x.pair(k, 1, 0));
        }
    }

    private static void append(StringBuilder text, long... answers) {
        for (long answer : answers) text.append(answer).append(' ');
    }

    private static void unknown(Map<String, ToLongFunction<OpenEyes>> calls) {
        for (int k : new int[] {-2, 3, 8, LOW, HIGH}) {
            calls.put("bride " + k, x -> x.bride(k));
            calls.put("look at " + k, x -> x.look(0, k));
            calls.put("look at shot " + k, x -> x.look(k, 0));
            calls.put("blink " + k, x -> x.blink(k, 0, 40));
            calls.put("bad " + k, x -> x.bad(k, 3));
            calls.put("tall " + k, x -> x.tall(k, 99));
            calls.put("pair " + k, x -> x.pair(k, 0, 2));
            calls.put("pair with " + k, x -> x.pair(0, k, 2));
        }
        calls.put("pair of one", x -> x.pair(1, 1, 2));
        calls.put("blink -1", x -> x.blink(-1, 0, 40));
        calls.put("look at -1", x -> x.look(-1, -1));
    }

    /** Calls whose persons there are, and another number of which is just beside its bounds or far away. */
    private static void outside(Map<String, ToLongFunction<OpenEyes>> calls) {
        beside(calls, "people", 1, 8, (x, v) -> x.people(v));
        beside(calls, "say", 33, 126, (x, v) -> x.say(v));
        beside(calls, "fault", 0, 1, (x, v) -> x.fault(v));
        beside(calls, "single", 0, 1, (x, v) -> x.single(v));
        beside(calls, "spoils", 0, 1, (x, v) -> x.spoils(v));
        beside(calls, "hands", 0, 7, (x, v) -> x.hands(v));
        beside(calls, "blink what", 0, 2, (x, v) -> x.blink(0, v, 9));
        beside(calls, "blink period", 1, 60, (x, v) -> x.blink(0, 0, v));
        beside(calls, "blink shut", 0, 30, (x, v) -> x.blink(0, 1, v));
        beside(calls, "blink phase", 0, 59, (x, v) -> x.blink(0, 2, v));
        beside(calls, "flash", -1, 999, (x, v) -> x.flash(v));
        beside(calls, "open", 0, 999, (x, v) -> x.open(v));
        beside(calls, "fire from", 0, 999, (x, v) -> x.fire(v, 999, 0));
        beside(calls, "fire to", 0, 999, (x, v) -> x.fire(0, v, 0));
        beside(calls, "fire what", 0, 2, (x, v) -> x.fire(0, 9, v));
        beside(calls, "bad quarters", 0, 4, (x, v) -> x.bad(0, v));
        beside(calls, "bad tired", 0, 20, (x, v) -> x.bad(-1, v));
        beside(calls, "fraction likely", 0, 20, (x, v) -> x.likely(v, 0));
        beside(calls, "fraction likely part", 0, 1, (x, v) -> x.likely(0, v));
        beside(calls, "fraction one", 1, 3, (x, v) -> x.one(v, 0));
        beside(calls, "fraction one part", 0, 1, (x, v) -> x.one(1, v));
        beside(calls, "many a", 0, 50, (x, v) -> x.many(v, 50));
        beside(calls, "many b", 1, 100, (x, v) -> x.many(0, v));
        beside(calls, "shoot seed", 0, 9999, (x, v) -> x.shoot(v, 3, 0));
        beside(calls, "shoot m", 1, 30, (x, v) -> x.shoot(5, v, 0));
        beside(calls, "shoot what", 0, 1, (x, v) -> x.shoot(5, 3, v));
        beside(calls, "stair rows", 1, 3, (x, v) -> x.stair(v, 1));
        beside(calls, "stair columns", 1, 4, (x, v) -> x.stair(1, v));
        beside(calls, "tall", 0, 250, (x, v) -> x.tall(0, v));
        beside(calls, "rise", 0, 50, (x, v) -> x.tall(-1, v));
        beside(calls, "pair how", 0, 2, (x, v) -> x.pair(0, 1, v));
        beside(calls, "judge", 0, 1, (x, v) -> x.judge(v));
        beside(calls, "image", 0, 1, (x, v) -> x.image(v));
        beside(calls, "restore", 0, 1, (x, v) -> x.restore(v));
        beside(calls, "told", 0, 27, (x, v) -> x.told(v));
    }

    private interface Call {
        long of(OpenEyes x, int v);
    }

    private static void beside(Map<String, ToLongFunction<OpenEyes>> calls, String name, int least, int most, Call call) {
        for (int v : new int[] {least - 1, most + 1, LOW, HIGH}) calls.put(name + " " + v, x -> call.of(x, v));
    }

    @Says(at = "Terms", words = FRACTIONS)
    static void fractionsInLowestTerms(Check c) {
        for (int q = 0; q <= 4; q++) {
            for (int other = 0; other <= 4; other++) {
                OpenEyes x = people(2);
                x.bad(0, q);
                x.bad(1, other);
                for (int m = 1; m <= 3; m++) {
                    c.due("no number parts both, one of " + m, parts(x.one(m, 0), x.one(m, 1)), 1);
                    c.due("no number parts both, shot " + m, parts(x.likely(m, 0), x.likely(m, 1)), 1);
                }
            }
        }
    }

    /** The largest number that parts both without rest. */
    private static long parts(long upper, long lower) {
        long a = upper;
        long b = lower;
        while (b != 0) {
            long rest = a % b;
            a = b;
            b = rest;
        }
        return a;
    }

    @Says(at = "Terms", words = FRACTIONS)
    static void noughtAndOneInLowestTerms(Check c) {
        OpenEyes x = people(8);
        x.bad(3, 4);
        fraction(c, "nought", x.likely(0, 0), x.likely(0, 1), 0, 1);
        fraction(c, "nought of three", x.one(3, 0), x.one(3, 1), 0, 1);
        for (int k = 0; k < 8; k++) x.bad(k, 0);
        fraction(c, "one", x.likely(0, 0), x.likely(0, 1), 1, 1);
        fraction(c, "one of three", x.one(3, 0), x.one(3, 1), 1, 1);
    }

    @Says(at = "Terms", words = FRACTIONS)
    static void partsOtherThanUpperAndLower(Check c) {
        span(c, "likely, part", 0, 1, GONE_OUTSIDE, v -> new OpenEyes().likely(0, v));
        span(c, "one, part", 0, 1, GONE_OUTSIDE, v -> new OpenEyes().one(1, v));
        c.due("part 0 is the upper number", new OpenEyes().likely(0, 0), 81);
        c.due("part 1 is the lower number", new OpenEyes().likely(0, 1), 256);
    }

    @Says(at = "Terms", words = "refused with GONE and the refusal.")
    static void fractionsRefused(Check c) {
        c.due("likely", new OpenEyes().likely(21, 0), -1000000000000000000L - 2);
        c.due("one", new OpenEyes().one(0, 1), -1000000000000000000L - 2);
    }

    @Says(at = "Constants", words = "The constants: `UNKNOWN = -1, OUTSIDE = -2, STATE = -3, FULL = -4, NO = -5,"
        + " NONE = -6`: What refused calls answer; NONE: there is none.")
    static void constantsOfRefusals(Check c) {
        c.due("UNKNOWN", OpenEyes.UNKNOWN, -1);
        c.due("OUTSIDE", OpenEyes.OUTSIDE, -2);
        c.due("STATE", OpenEyes.STATE, -3);
        c.due("FULL", OpenEyes.FULL, -4);
        c.due("NO", OpenEyes.NO, -5);
        c.due("NONE", OpenEyes.NONE, -6);
        c.due("there is none", new OpenEyes().single(0), -6);
    }

    @Says(at = "Constants", words = "`GONE = -1000000000000000000L`: What is told of fractions that are refused: GONE"
        + " and the refusal.")
    static void constantOfFractions(Check c) {
        c.due("GONE", OpenEyes.GONE, -1000000000000000000L);
        c.due("GONE and OUTSIDE", new OpenEyes().one(4, 0), OpenEyes.GONE + OpenEyes.OUTSIDE);
    }
}
