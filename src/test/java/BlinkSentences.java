/** The sentences of section 3 and of promises 15 to 18: blinks, the flash, the best tenth. */
final class BlinkSentences extends Eyes {
    private static final String SETTINGS = "(PERIOD 1 to 60, SHUT 0 to PERIOD, PHASE 0 to 59;";

    /** One person who blinks so. */
    private static OpenEyes blinking(int period, int shut, int phase) {
        OpenEyes x = people(1);
        // A SHUT that is larger than the new PERIOD would be in the way.
        x.blink(0, 1, 0);
        x.blink(0, 0, period);
        x.blink(0, 1, shut);
        x.blink(0, 2, phase);
        return x;
    }

    @Says(at = "3", words = "BLINKS, by tenths of a second (0 to 999):")
    static void tenthsOfASecond(Check c) {
        span(c, "open", 0, 999, OUTSIDE, v -> new OpenEyes().open(v));
        span(c, "fire from", 0, 999, OUTSIDE, v -> new OpenEyes().fire(v, 999, 0));
        span(c, "fire to", 0, 999, OUTSIDE, v -> new OpenEyes().fire(0, v, 0));
        span(c, "flash", -1, 999, OUTSIDE, v -> new OpenEyes().flash(v));
    }

    @Says(at = "3", words = "a PERSON's eyes are shut at a tenth x, if x and PHASE, left over by PERIOD, is below SHUT")
    static void shutByTheTenth(Check c) {
        int[] tenths = {0, 1, 2, 28, 29, 30, 31, 57, 58, 59, 60, 61, 119, 120, 500, 997, 998, 999};
        for (int period : new int[] {1, 2, 3, 7, 29, 30, 31, 59, 60}) {
            for (int shut : new int[] {0, 1, period - 1, period}) {
                for (int phase : new int[] {0, 1, 2, 28, 29, 30, 58, 59}) {
                    OpenEyes x = blinking(period, shut, phase);
                    for (int t : tenths) {
                        int due = (t + phase) % period < shut ? 0 : 1;
                        c.due("tenth " + t + " by " + period + " " + shut + " " + phase, x.open(t), due);
                    }
                }
            }
        }
    }

    @Says(at = "3", words = "a PERSON's eyes are shut at a tenth x, if x and PHASE, left over by PERIOD, is below SHUT")
    static void periodsComeRound(Check c) {
        OpenEyes x = blinking(10, 3, 8);
        // 0 and 8 is below 10 and not below 3; 2 and 8 comes round to 0.
        int[] due = {1, 1, 0, 0, 0, 1, 1, 1, 1, 1};
        for (int t = 0; t < 10; t++) {
            c.due("tenth " + t, x.open(t), due[t]);
            c.due("tenth " + (990 + t), x.open(990 + t), due[t]);
        }
    }

    @Says(at = "3", words = SETTINGS)
    static void periodOneToSixty(Check c) {
        span(c, "period", 1, 60, OUTSIDE, v -> {
            OpenEyes x = people(1);
            x.blink(0, 1, 0);
            return x.blink(0, 0, v);
        });
    }

    @Says(at = "3", words = SETTINGS)
    static void shutUpToThePeriod(Check c) {
        for (int period = 1; period <= 60; period++) {
            int of = period;
            span(c, "shut of " + period, 0, period, OUTSIDE, v -> blinking(of, 0, 0).blink(0, 1, v));
        }
    }

    @Says(at = "3", words = SETTINGS)
    static void phaseUpToFiftyNine(Check c) {
        span(c, "phase", 0, 59, OUTSIDE, v -> new OpenEyes().blink(0, 2, v));
        c.due("a phase above the period", blinking(1, 0, 0).blink(0, 2, 59), 0);
    }

    @Says(at = "3", words = "30, 2, 0 at first).")
    static void blinksAtFirst(Check c) {
        OpenEyes x = people(8);
        for (int k = 0; k < 8; k++) {
            c.due("period of " + k, x.blink(k, 0, 30), 30);
            c.due("shut of " + k, x.blink(k, 1, 2), 2);
            c.due("phase of " + k, x.blink(k, 2, 0), 0);
        }
        for (int t : new int[] {0, 1, 30, 31, 990, 991}) c.due("all are shut at " + t, x.open(t), 0);
        for (int t : new int[] {2, 29, 32, 989, 992, 999}) c.due("all are open at " + t, x.open(t), 255);
    }

    @Says(at = "3", words = "A FLASH at a tenth f (-1: none; at first):")
    static void noFlashAtFirst(Check c) {
        OpenEyes x = blinking(30, 0, 0);
        c.due("told", x.told(5), -1);
        for (int t = 0; t < 5; t++) c.due("no flash, tenth " + t, x.open(t), 1);
        c.due("none to a flash at 0", x.flash(0), -1);
        c.due("and to none", x.flash(-1), 0);
        for (int t = 0; t < 5; t++) c.due("no flash again, tenth " + t, x.open(t), 1);
    }

    @Says(at = "3", words = "all are shut at f and 1, f and 2.")
    static void shutBehindAFlash(Check c) {
        for (int f : new int[] {0, 1, 500, 996, 997, 998, 999}) {
            OpenEyes x = people(8);
            for (int k = 0; k < 8; k++) x.blink(k, 1, 0);
            x.flash(f);
            for (int t = Math.max(0, f - 3); t <= Math.min(999, f + 5); t++) {
                c.due("flash " + f + ", tenth " + t, x.open(t), t == f + 1 || t == f + 2 ? 0 : 255);
            }
            c.due("flash " + f + " does not come round to 0", x.open(f == 0 ? 3 : 0), 255);
        }
    }

    @Says(at = "3", words = "OPEN: who is open at a tenth.")
    static void whoIsOpen(Check c) {
        OpenEyes x = people(8);
        for (int k = 0; k < 8; k++) x.blink(k, 2, 3 * k);
        // Person k is shut where the tenth and 3 k is 0 or 1 by thirty.
        c.due("person 0 alone is shut", x.open(0), 254);
        c.due("person 1 alone is shut", x.open(27), 253);
        c.due("person 7 alone is shut", x.open(9), 127);
        c.due("nobody is shut", x.open(2), 255);
    }

    @Says(at = "3", words = "BEST of a span: the first tenth of it at which most are open.")
    static void bestTenth(Check c) {
        OpenEyes x = people(2);
        x.blink(1, 2, 28);
        // Person 0 is shut at 0 and 1, person 1 at 2 and 3.
        c.due("the first with all", x.fire(0, 29, 0), 4);
        c.due("the first with one", x.fire(0, 3, 0), 0);
        c.due("the first is best", x.fire(5, 29, 0), 5);
        c.due("the last is best", x.fire(1, 4, 0), 4);
        c.due("in one period more", x.fire(30, 60, 0), 34);
        x.flash(3);
        c.due("all are shut: the first", x.fire(4, 5, 0), 4);
        c.due("behind a flash", x.fire(4, 6, 0), 6);
    }

    @Says(at = "3", words = "ALL: how many tenths of it at which all are.")
    static void tenthsOfAll(Check c) {
        OpenEyes x = new OpenEyes();
        c.due("of one period", x.fire(0, 29, 2), 28);
        c.due("of all", x.fire(0, 999, 2), 1000 - 34 * 2);
        c.due("never", x.fire(0, 1, 2), 0);
        c.due("most are not all", blinkingOther().fire(0, 99, 2), 0);
        x.flash(10);
        c.due("without those behind a flash", x.fire(0, 29, 2), 26);
        c.due("one tenth", x.fire(999, 999, 2), 1);
    }

    /** Two people, one of them always shut. */
    private static OpenEyes blinkingOther() {
        OpenEyes x = people(2);
        x.blink(1, 1, 30);
        return x;
    }

    @Says(at = "Promise 15", words = "PERIOD (what = 0), SHUT (1), PHASE (2) of a PERSON: which it was.")
    static void whichTheSettingWas(Check c) {
        OpenEyes x = people(8);
        for (int k : new int[] {0, 7}) {
            c.due("period", x.blink(k, 0, 60), 30);
            c.due("shut", x.blink(k, 1, 60), 2);
            c.due("phase", x.blink(k, 2, 59), 0);
            c.due("shut again", x.blink(k, 1, 0), 60);
            c.due("period again", x.blink(k, 0, 1), 60);
            c.due("phase again", x.blink(k, 2, 0), 59);
            c.due("period once more", x.blink(k, 0, 9), 1);
            c.due("shut once more", x.blink(k, 1, 9), 0);
        }
        c.due("others are as at first", x.blink(1, 0, 30), 30);
        c.due("their shut, too", x.blink(6, 1, 2), 2);
    }

    @Says(at = "Promise 15", words = "UNKNOWN;")
    static void blinksOfNobody(Check c) {
        for (int n : new int[] {1, 4, 8}) {
            OpenEyes x = people(n);
            refused(c, "blink, " + n + " people:", UNKNOWN, v -> x.blink(v, 0, 30), n, n + 1, 8, -1, -2, LOW, HIGH);
        }
    }

    @Says(at = "Promise 15", words = "OUTSIDE: also SHUT above PERIOD,")
    static void shutAboveThePeriod(Check c) {
        OpenEyes x = new OpenEyes();
        c.due("31 of 30", x.blink(2, 1, 31), OUTSIDE);
        c.due("30 of 30", x.blink(2, 1, 30), 2);
        x.blink(2, 1, 0);
        x.blink(2, 0, 1);
        c.due("2 of 1", x.blink(2, 1, 2), OUTSIDE);
        c.due("1 of 1", x.blink(2, 1, 1), 0);
        c.due("another one has its own period", x.blink(3, 1, 2), 2);
        x.blink(3, 0, 60);
        c.due("60 of 60", x.blink(3, 1, 60), 2);
        c.due("61 of 60", x.blink(3, 1, 61), OUTSIDE);
    }

    @Says(at = "Promise 15", words = "OUTSIDE: also SHUT above PERIOD,")
    static void settingsTooSmallOrTooLarge(Check c) {
        span(c, "what", 0, 2, OUTSIDE, v -> new OpenEyes().blink(0, v, 20));
        refused(c, "period", OUTSIDE, v -> new OpenEyes().blink(0, 0, v), 0, 61, -1, LOW, HIGH);
        refused(c, "shut", OUTSIDE, v -> new OpenEyes().blink(0, 1, v), -1, 31, LOW, HIGH);
        refused(c, "phase", OUTSIDE, v -> new OpenEyes().blink(0, 2, v), -1, 60, LOW, HIGH);
    }

    @Says(at = "Promise 15", words = "a PERIOD below SHUT.")
    static void periodBelowShut(Check c) {
        OpenEyes x = new OpenEyes();
        c.due("1 below 2", x.blink(0, 0, 1), OUTSIDE);
        c.due("2 is not below 2", x.blink(0, 0, 2), 30);
        x.blink(0, 0, 60);
        x.blink(0, 1, 60);
        c.due("59 below 60", x.blink(0, 0, 59), OUTSIDE);
        c.due("60 is not below 60", x.blink(0, 0, 60), 60);
        x.blink(0, 1, 0);
        c.due("0 is too small even so", x.blink(0, 0, 0), OUTSIDE);
        c.due("1 is not", x.blink(0, 0, 1), 60);
    }

    @Says(at = "Promise 16", words = "FLASH: which it was (-1: none).")
    static void whichTheFlashWas(Check c) {
        OpenEyes x = new OpenEyes();
        c.due("none at first", x.flash(0), -1);
        c.due("0", x.flash(999), 0);
        c.due("999", x.flash(-1), 999);
        c.due("none", x.flash(-1), -1);
    }

    @Says(at = "Promise 16", words = "OUTSIDE: -1 to 999.")
    static void flashAtNoTenth(Check c) {
        OpenEyes x = new OpenEyes();
        x.flash(7);
        refused(c, "flash", OUTSIDE, x::flash, -2, 1000, LOW, HIGH);
        c.due("it stays", x.told(5), 7);
        span(c, "flash", -1, 999, OUTSIDE, v -> new OpenEyes().flash(v));
    }

    @Says(at = "Promise 17", words = "OPEN, as bits.")
    static void openAsBits(Check c) {
        OpenEyes x = new OpenEyes();
        c.due("all", x.open(2), 15);
        c.due("none", x.open(0), 0);
        x.blink(0, 1, 30);
        c.due("bit 0 is person 0", x.open(2), 14);
        x.blink(3, 1, 30);
        c.due("bit 3 is person 3", x.open(2), 6);
        c.due("one person", people(1).open(2), 1);
        c.due("eight people", people(8).open(2), 255);
    }

    @Says(at = "Promise 17", words = "OUTSIDE.")
    static void openAtNoTenth(Check c) {
        OpenEyes x = new OpenEyes();
        c.due("the first", x.open(0), 0);
        c.due("the last", x.open(999), 15);
        refused(c, "open", OUTSIDE, x::open, -1, 1000, LOW, HIGH);
    }

    @Says(at = "Promise 18", words = "Of a span from one tenth to another one (both, too):")
    static void bothEndsAreOfTheSpan(Check c) {
        OpenEyes x = new OpenEyes();
        c.due("the first counts", x.fire(2, 5, 2), 4);
        c.due("the last counts", x.fire(29, 32, 2), 2);
        c.due("the last can be best", x.fire(0, 2, 0), 2);
        c.due("the first can be best", x.fire(29, 31, 0), 29);
        c.due("one tenth", x.fire(2, 2, 2), 1);
        c.due("one tenth, best", x.fire(999, 999, 0), 999);
        c.due("one tenth, the first of all", x.fire(0, 0, 0), 0);
    }

    @Says(at = "Promise 18", words = "BEST (what = 0), how many are open then (1), ALL (2).")
    static void bestHowManyAll(Check c) {
        OpenEyes x = blinkingOther();
        c.due("best", x.fire(0, 99, 0), 2);
        c.due("how many", x.fire(0, 99, 1), 1);
        c.due("all", x.fire(0, 99, 2), 0);
        c.due("none is open", x.fire(0, 1, 1), 0);
        c.due("the first, then", x.fire(0, 1, 0), 0);
        c.due("all of eight", people(8).fire(0, 2, 1), 8);
    }

    @Says(at = "Promise 18", words = "OUTSIDE: also a span that ends before it begins.")
    static void endsBeforeItBegins(Check c) {
        for (int what = 0; what <= 2; what++) {
            c.due("by one", new OpenEyes().fire(5, 4, what), OUTSIDE);
            c.due("by all", new OpenEyes().fire(999, 0, what), OUTSIDE);
            c.holds("not by none", new OpenEyes().fire(5, 5, what) >= 0);
        }
    }

    @Says(at = "Promise 18", words = "OUTSIDE: also a span that ends before it begins.")
    static void spanOfNoTenths(Check c) {
        span(c, "from", 0, 999, OUTSIDE, v -> new OpenEyes().fire(v, 999, 0));
        span(c, "to", 0, 999, OUTSIDE, v -> new OpenEyes().fire(0, v, 0));
        span(c, "what", 0, 2, OUTSIDE, v -> new OpenEyes().fire(0, 9, v));
        c.due("both too large", new OpenEyes().fire(1000, 1000, 0), OUTSIDE);
        c.due("both too small", new OpenEyes().fire(-1, -1, 0), OUTSIDE);
    }
}
