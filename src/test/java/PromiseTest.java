import java.util.Arrays;

/** Each promise of the document: ordinary inputs, edges that it names, wrong inputs. */
public final class PromiseTest extends Eyes {
    private static final Check check = new Check();

    private static void due(String what, long got, long want) {
        check.due(what, got, want);
    }

    private static void headsAre(String name, OpenEyes x, int cuts, int... shots) {
        headsAre(check, name, x, cuts, shots);
    }

    private static void judged(String name, OpenEyes x, String standing, int person, int what) {
        judged(check, name, x, standing, person, what);
    }

    public static void main(String[] args) {
        newObject();
        people();
        bride();
        sayAndWipe();
        faultAsShot();
        faultAsStanding();
        shotAndLook();
        single();
        cover();
        spoils();
        hands();
        heads();
        left();
        blink();
        flashAndOpen();
        fire();
        bad();
        likely();
        one();
        many();
        shoot();
        stair();
        tall();
        pair();
        judge();
        placed();
        placedAfterChanges();
        imageAndRestore();
        told();
        refusalsChangeNothing();
        refusalsInTheirOrder();
        check.end("PromiseTest");
    }

    // Promise 1
    private static void newObject() {
        OpenEyes x = new OpenEyes();
        int[] first = {0, 4, 0, NONE, 0, -1, 20, 2, 3, 10};
        for (int what = 0; what < first.length; what++) due("new told " + what, x.told(what), first[what]);
        for (int k = 0; k < 4; k++) {
            due("new tall " + k, x.told(10 + k), 170);
            due("new quarters " + k, x.told(20 + k), 1);
            due("new period", x.blink(k, 0, 30), 30);
            due("new shut", x.blink(k, 1, 2), 2);
            due("new phase", x.blink(k, 2, 0), 0);
            due("new pair", k == 3 ? 0 : x.pair(k, 3, 0), 0);
        }
        due("new look", x.look(0, 0), UNKNOWN);
        due("new single", x.single(0), NONE);
        due("new single bad", x.single(1), NONE);
        due("new cover", x.cover(), NONE);
        due("new spoils", x.spoils(0), NONE);
        due("new spoils times", x.spoils(1), 0);
        due("new heads", x.heads(-1), NONE);
        due("new left", x.left(), NONE);
        due("new restore 0", x.restore(0), STATE);
        due("new restore 1", x.restore(1), STATE);
        due("new standings", x.placed(-1), 360);
    }

    // Promise 2
    private static void people() {
        OpenEyes x = new OpenEyes();
        due("people 8", x.people(8), 4);
        due("people 1", x.people(1), 8);
        for (int n : new int[] {0, 9, -1, LOW, HIGH}) due("people " + n, x.people(n), OUTSIDE);
        due("people 3", x.people(3), 1);
        write(x, "osh");
        x.shot();
        x.bride(1);
        x.hands(3);
        x.blink(1, 0, 40);
        x.blink(1, 1, 5);
        x.blink(1, 2, 7);
        x.flash(11);
        x.bad(1, 3);
        x.bad(-1, 5);
        x.stair(3, 2);
        x.tall(1, 99);
        x.tall(-1, 22);
        x.pair(0, 1, 2);
        write(x, "xy");
        due("people the same", x.people(3), 3);
        due("shots go", x.told(2), 0);
        due("no shot to look at", x.look(0, 0), UNKNOWN);
        due("no bride", x.told(3), NONE);
        due("hands as at first", x.told(4), 0);
        due("period as at first", x.blink(1, 0, 30), 30);
        due("shut as at first", x.blink(1, 1, 2), 2);
        due("phase as at first", x.blink(1, 2, 0), 0);
        due("quarters as at first", x.told(21), 1);
        due("tall as at first", x.told(11), 170);
        due("pair as at first", x.pair(1, 0, 0), 0);
        due("the flash stays", x.told(5), 11);
        due("tired stays", x.told(6), 5);
        due("rows stay", x.told(7), 3);
        due("columns stay", x.told(8), 2);
        due("rise stays", x.told(9), 22);
        due("the pad stays", x.told(0), 2);
        x.tall(2, 5);
        x.people(2);
        x.people(3);
        due("those who come again are as at first", x.told(12), 170);
        x.people(8);
        x.pair(6, 7, 2);
        x.blink(7, 2, 9);
        x.people(8);
        due("the last pair too", x.pair(7, 6, 0), 0);
        due("the last phase too", x.blink(7, 2, 0), 0);
    }

    // Promise 3
    private static void bride() {
        OpenEyes x = new OpenEyes();
        due("bride none to none", x.bride(-1), NONE);
        due("bride 3", x.bride(3), NONE);
        due("told bride", x.told(3), 3);
        due("bride 0", x.bride(0), 3);
        due("bride -1", x.bride(-1), 0);
        for (int k : new int[] {4, -2, -6, LOW, HIGH}) due("bride " + k, x.bride(k), UNKNOWN);
        due("still none", x.told(3), NONE);
    }

    // Promises 4 and 5
    private static void sayAndWipe() {
        OpenEyes x = new OpenEyes();
        due("wipe nothing", x.wipe(), 0);
        for (int sign : new int[] {32, 127, 0, -1, LOW, HIGH}) due("say " + sign, x.say(sign), OUTSIDE);
        due("say 33", x.say(33), 1);
        due("say 126", x.say(126), 2);
        for (int i = 3; i <= 40; i++) due("say " + i, x.say('o'), i);
        due("say the 41st", x.say('o'), FULL);
        due("say outside on a full pad", x.say(32), OUTSIDE);
        due("signs", x.told(0), 40);
        due("wipe forty", x.wipe(), 40);
        due("wipe again", x.wipe(), 0);
        due("say anew", x.say('o'), 1);
    }

    // Promise 6
    private static void faultAsShot() {
        OpenEyes x = new OpenEyes();
        due("empty pad", x.fault(0), 0);
        String[] texts = {"o", "os", "osth", "osthx", "ostho", "oOth", "xsth", "osto", "ost0", "hhhh", "osx"};
        int[] faults = {1, 2, NONE, 4, 4, 1, 0, NONE, 3, NONE, 2};
        for (int i = 0; i < texts.length; i++) {
            write(x, texts[i]);
            due("fault of " + texts[i], x.fault(0), faults[i]);
        }
        for (int how : new int[] {-1, 2, LOW, HIGH}) due("fault " + how, x.fault(how), OUTSIDE);
        x.people(2);
        due("fault by the people there are", x.fault(0), 2);
    }

    private static void faultAsStanding() {
        OpenEyes x = stairOf(3, 2, 2);
        due("empty pad", x.fault(1), 0);
        String[] texts = {"0", "01", "012", "0123", "320", "004", "040", "011", "01a", "/12", "0:1", "01x1", "ooo"};
        int[] faults = {1, 2, NONE, 3, NONE, 1, 1, 2, 2, 0, 1, 2, 0};
        for (int i = 0; i < texts.length; i++) {
            write(x, texts[i]);
            due("standing fault of " + texts[i], x.fault(1), faults[i]);
        }
        x.stair(1, 2);
        write(x, "01");
        due("more people than places", x.fault(1), 2);
        write(x, "012");
        due("a place that there is not", x.fault(1), 2);
        x.stair(2, 4);
        x.people(8);
        write(x, "76543210");
        due("eight places", x.fault(1), NONE);
    }

    // Promises 7 and 8
    private static void shotAndLook() {
        OpenEyes x = new OpenEyes();
        due("shot of nothing", x.shot(), NO);
        write(x, "osth");
        due("shot", x.shot(), 0);
        due("the pad is empty then", x.told(0), 0);
        due("look o", x.look(0, 0), 'o');
        due("look s", x.look(0, 1), 's');
        due("look t", x.look(0, 2), 't');
        due("look h", x.look(0, 3), 'h');
        due("look 4", x.look(0, 4), UNKNOWN);
        due("look -1", x.look(0, -1), UNKNOWN);
        due("look shot 1", x.look(1, 0), UNKNOWN);
        due("look shot -1", x.look(-1, 0), UNKNOWN);
        due("look far", x.look(HIGH, LOW), UNKNOWN);
        for (int s = 1; s < 10; s++) {
            write(x, s == 9 ? "hhhh" : "oooo");
            due("shot " + s, x.shot(), s);
        }
        write(x, "oooo");
        due("shot 11", x.shot(), FULL);
        due("its signs stay", x.told(0), 4);
        due("shots", x.told(2), 10);
        due("look at the last", x.look(9, 3), 'h');
        x.say('o');
        due("a fault comes before full", x.shot(), NO);
    }

    // Promise 9
    private static void single() {
        OpenEyes x = with("sso", "hoo", "soo", "oso", "soo");
        due("fewest bad, fewest hidden, the first", x.single(0), 2);
        due("how many bad", x.single(1), 1);
        x.bride(0);
        due("with the bride", x.single(0), 3);
        due("bad with the bride", x.single(1), 1);
        x.bride(2);
        due("with another one", x.single(0), 2);
        for (int what : new int[] {-1, 2, LOW, HIGH}) due("single " + what, x.single(what), OUTSIDE);
        OpenEyes y = with("sooo", "hooo");
        y.bride(0);
        due("the bride is never open", y.single(0), NONE);
        due("nobody to count", y.single(1), NONE);
        OpenEyes z = with("hhoo", "ssso");
        due("bad weighs more than hidden", z.single(0), 0);
        OpenEyes all = with("hhhhhhhh", "hshhhhhh", "tttttttt");
        due("all are bad", all.single(0), 2);
        due("eight are bad", all.single(1), 8);
        due("person 0 counts", with("sos", "oos").single(0), 1);
        OpenEyes again = with("oooo", "oooo");
        again.people(4);
        write(again, "ssst");
        again.shot();
        due("nothing is left of shots that went", again.single(1), 4);
    }

    // Promise 10
    private static void cover() {
        due("one is enough", with("sso", "ooo", "ooo").cover(), 2);
        due("the first is enough", with("ooo", "ooo").cover(), 1);
        due("two are needed", with("oso", "soo", "oos", "sso").cover(), 3);
        due("least as bits", with("oss", "soo", "oso", "sos").cover(), 3);
        due("not the first but the fewest", with("osss", "soss", "ssos", "ssso", "ooos").cover(), 24);
        due("never open", with("oso", "osh", "oth").cover(), NONE);
        OpenEyes x = with("osssssss", "soosssss", "ssssosss", "sssssoss", "ssssssos", "ssssssso",
            "sssossss");
        due("many are needed", x.cover(), 127);
        OpenEyes y = with("sso", "sso", "sso", "sso", "sso", "sso", "sso", "sso", "sso", "oos");
        due("the tenth is a bit too", y.cover(), 513);
    }

    // Promise 11
    private static void spoils() {
        OpenEyes x = with("osth", "oosh", "oooo");
        due("who", x.spoils(0), 2);
        due("in how many", x.spoils(1), 2);
        due("person 0", with("sos", "sso").spoils(0), 0);
        OpenEyes y = with("oooo", "oooo");
        due("nobody", y.spoils(0), NONE);
        due("in none", y.spoils(1), 0);
        for (int what : new int[] {-1, 2, LOW, HIGH}) due("spoils " + what, x.spoils(what), OUTSIDE);
    }

    // Promise 12
    private static void hands() {
        OpenEyes x = new OpenEyes();
        due("hands 7", x.hands(7), 0);
        due("hands 2", x.hands(2), 7);
        due("hands of four", x.hands(8), OUTSIDE);
        due("hands -1", x.hands(-1), OUTSIDE);
        due("hands LOW", x.hands(LOW), OUTSIDE);
        due("hands HIGH", x.hands(HIGH), OUTSIDE);
        due("told hands", x.told(4), 2);
        x.people(8);
        due("hands 127", x.hands(127), 0);
        due("hands 128", x.hands(128), OUTSIDE);
        x.people(1);
        due("hands of one", x.hands(0), 0);
        due("nobody to hold", x.hands(1), OUTSIDE);
    }

    // Promise 13
    private static void heads() {
        headsAre("one shot has all", with("osoo", "oooo", "oooo"), 0, 1, 1, 1, 1);
        headsAre("as late as it must be", with("ooss", "soso", "ssoo"), 1, 0, 0, 2, 2);
        headsAre("as early as it can be", with("sooo", "osss", "ooos", "osso"), 1, 1, 0, 0, 0);
        headsAre("the first of several", with("oosss", "ssooo", "oooss"), 1, 0, 0, 1, 1, 1);
        headsAre("not the nearest first", with("osss", "ooos", "ssoo"), 1, 1, 1, 1, 2);
        headsAre("one person", with("s", "h", "o", "o"), 0, 2);
        headsAre("each its own", with("osos", "soso"), 3, 0, 1, 0, 1);
        headsAre("never open", with("ooso", "ooto"), NONE, NONE, NONE, NONE, NONE);
        OpenEyes x = with("ooss", "ssoo", "sooo", "osss");
        headsAre("no hands", x, 1, 0, 0, 1, 1);
        x.hands(2);
        headsAre("hands of 1 and 2", x, 1, 0, 2, 2, 2);
        x.hands(7);
        headsAre("all hold hands", x, NONE, NONE, NONE);
        x.hands(1);
        headsAre("hands of 0 and 1", x, 1, 0, 0, 1, 1);
        int[] nobody = {-2, 4, 7, 8, -957022845, LOW, HIGH};
        for (int i : nobody) due("no person " + i, x.heads(i), NONE);
        for (int i : nobody) due("no person, no shot " + i, new OpenEyes().heads(i), NONE);
        headsAre("still those", x, 1, 0, 0, 1, 1);
        OpenEyes y = with("oooooooo");
        due("one of eight", y.heads(7), 0);
        y.people(3);
        write(y, "ooo");
        y.shot();
        due("the last of three", y.heads(2), 0);
        due("no longer a person", y.heads(3), NONE);
        due("nor the eighth", y.heads(7), NONE);
    }

    // Promise 14
    private static void left() {
        OpenEyes x = with("ooss", "ssoo");
        due("there are heads", x.left(), 0);
        x.hands(2);
        due("one is left", x.left(), 1);
        x.hands(7);
        due("two are left", x.left(), 2);
        x.hands(5);
        due("two chains", x.left(), 0);
        due("never open", with("osso", "otho").left(), 2);
        due("no shots", new OpenEyes().left(), NONE);
        OpenEyes y = with("osoooooo", "oosssooo");
        y.hands(127);
        due("the best shot for all", y.left(), 1);
        y.hands(1 + 2 + 8);
        due("two chains, one of them whole", y.left(), 1);
    }

    // Promise 15
    private static void blink() {
        OpenEyes x = new OpenEyes();
        due("period 60", x.blink(1, 0, 60), 30);
        due("shut 60", x.blink(1, 1, 60), 2);
        due("period below shut", x.blink(1, 0, 59), OUTSIDE);
        due("shut 0", x.blink(1, 1, 0), 60);
        due("period 1", x.blink(1, 0, 1), 60);
        due("shut above period", x.blink(1, 1, 2), OUTSIDE);
        due("shut as the period", x.blink(1, 1, 1), 0);
        due("period as shut", x.blink(1, 0, 1), 1);
        due("period 0", x.blink(1, 0, 0), OUTSIDE);
        due("shut 0 again", x.blink(1, 1, 0), 1);
        due("period 0 with shut 0", x.blink(1, 0, 0), OUTSIDE);
        due("period 61", x.blink(1, 0, 61), OUTSIDE);
        due("shut -1", x.blink(1, 1, -1), OUTSIDE);
        due("phase 59", x.blink(1, 2, 59), 0);
        due("phase 60", x.blink(1, 2, 60), OUTSIDE);
        due("phase -1", x.blink(1, 2, -1), OUTSIDE);
        due("phase kept", x.blink(1, 2, 0), 59);
        due("what 3", x.blink(1, 3, 1), OUTSIDE);
        due("what -1", x.blink(1, -1, 1), OUTSIDE);
        due("person 4", x.blink(4, 0, 1), UNKNOWN);
        due("person -1", x.blink(-1, 9, 99), UNKNOWN);
        due("others are as they were", x.blink(0, 0, 30), 30);
    }

    // Promises 16 and 17
    private static void flashAndOpen() {
        OpenEyes x = new OpenEyes();
        for (int t : new int[] {-1, 1000, LOW, HIGH}) due("open " + t, x.open(t), OUTSIDE);
        due("open 0", x.open(0), 0);
        due("open 1", x.open(1), 0);
        due("open 2", x.open(2), 15);
        due("open 29", x.open(29), 15);
        due("open 30", x.open(30), 0);
        due("open 999", x.open(999), 15);
        x.blink(2, 2, 1);
        due("a phase is added", x.open(29), 11);
        due("and over sooner", x.open(1), 4);
        x.blink(3, 1, 0);
        due("never shut", x.open(0), 8);
        x.blink(3, 1, 30);
        due("ever shut", x.open(10), 7);
        x.blink(3, 1, 1);
        x.blink(3, 0, 1);
        due("ever shut by a period of one", x.open(10), 7);
        for (int t : new int[] {-2, 1000, LOW, HIGH}) due("flash " + t, x.flash(t), OUTSIDE);
        due("flash 10", x.flash(10), -1);
        int[] behind = {7, 7, 0, 0, 7};
        for (int i = 0; i < 5; i++) due("open " + (9 + i), x.open(9 + i), behind[i]);
        due("flash 0", x.flash(0), 10);
        due("told flash", x.told(5), 0);
        due("at 2 behind 0", x.open(2), 0);
        due("at 3 behind 0", x.open(3), 7);
        due("flash 999", x.flash(999), 0);
        due("no flash", x.flash(-1), 999);
        OpenEyes y = new OpenEyes();
        y.people(1);
        y.blink(0, 1, 0);
        due("no flash shuts nobody at 0", y.open(0), 1);
        due("no flash shuts nobody at 1", y.open(1), 1);
    }

    // Promise 18
    private static void fire() {
        OpenEyes x = new OpenEyes();
        x.people(2);
        x.blink(0, 0, 3);
        x.blink(1, 0, 4);
        x.blink(1, 1, 3);
        due("best", x.fire(0, 999, 0), 11);
        due("most", x.fire(0, 999, 1), 2);
        due("all", x.fire(0, 999, 2), 83);
        due("the first of a span", x.fire(4, 10, 0), 5);
        due("one is open", x.fire(4, 10, 1), 1);
        due("never all", x.fire(0, 10, 2), 0);
        due("one tenth", x.fire(11, 11, 0), 11);
        due("the end is in it", x.fire(5, 11, 0), 11);
        due("the end is counted", x.fire(11, 23, 2), 2);
        due("all shut: the first", x.fire(6, 6, 0), 6);
        due("none is open", x.fire(6, 6, 1), 0);
        x.flash(10);
        due("behind a flash", x.fire(0, 999, 0), 23);
        due("all behind a flash", x.fire(0, 999, 2), 82);
        due("ends before it begins", x.fire(5, 4, 0), OUTSIDE);
        due("from -1", x.fire(-1, 4, 0), OUTSIDE);
        due("to 1000", x.fire(0, 1000, 0), OUTSIDE);
        due("from 1000", x.fire(1000, 1000, 0), OUTSIDE);
        due("what 3", x.fire(0, 1, 3), OUTSIDE);
        due("what -1", x.fire(0, 1, -1), OUTSIDE);
        due("far", x.fire(LOW, HIGH, LOW), OUTSIDE);
    }

    // Promise 19
    private static void bad() {
        OpenEyes x = new OpenEyes();
        due("quarters 4", x.bad(3, 4), 1);
        due("quarters 0", x.bad(3, 0), 4);
        due("told quarters", x.told(23), 0);
        due("quarters 5", x.bad(3, 5), OUTSIDE);
        due("quarters -1", x.bad(3, -1), OUTSIDE);
        due("tired 0", x.bad(-1, 0), 20);
        due("tired 20", x.bad(-1, 20), 0);
        due("tired 21", x.bad(-1, 21), OUTSIDE);
        due("tired -1", x.bad(-1, -1), OUTSIDE);
        for (int k : new int[] {4, -2, LOW, HIGH}) due("bad " + k, x.bad(k, 9), UNKNOWN);
    }

    // Promise 20
    private static void likely() {
        OpenEyes x = new OpenEyes();
        x.people(2);
        x.bad(0, 2);
        due("upper", x.likely(0, 0), 3);
        due("lower", x.likely(0, 1), 8);
        due("not tired yet", x.likely(19, 1), 8);
        due("tired", x.likely(20, 0), 1);
        due("tired lower", x.likely(20, 1), 8);
        x.bad(0, 4);
        due("no more than four quarters", x.likely(20, 0), 0);
        due("nought is 0 by 1", x.likely(20, 1), 1);
        x.bad(0, 0);
        x.bad(1, 0);
        due("sure", x.likely(5, 0), 1);
        due("sure lower", x.likely(5, 1), 1);
        x.bad(-1, 5);
        due("before", x.likely(4, 1), 1);
        due("from there on", x.likely(5, 1), 16);
        due("three quarters each", x.likely(5, 0), 9);
        x.people(8);
        due("eight", x.likely(0, 0), 6561);
        due("eight lower", x.likely(0, 1), 65536);
        for (int k : new int[] {-1, 21, LOW, HIGH}) due("likely " + k, x.likely(k, 0), GONE_OUTSIDE);
        for (int p : new int[] {-1, 2, LOW, HIGH}) due("part " + p, x.likely(0, p), GONE_OUTSIDE);
    }

    // Promise 21
    private static void one() {
        OpenEyes x = new OpenEyes();
        x.people(1);
        due("1 of 1", x.one(1, 0), 3);
        due("lower of 1", x.one(1, 1), 4);
        due("1 of 2", x.one(2, 0), 15);
        due("lower of 2", x.one(2, 1), 16);
        due("1 of 3", x.one(3, 0), 63);
        x.bad(-1, 2);
        due("tired in the third", x.one(3, 0), 31);
        due("lower, tired in the third", x.one(3, 1), 32);
        due("not in the second", x.one(2, 1), 16);
        x.bad(0, 0);
        due("sure", x.one(3, 0), 1);
        due("sure lower", x.one(3, 1), 1);
        x.bad(0, 4);
        due("never", x.one(2, 0), 0);
        due("never lower", x.one(2, 1), 1);
        x.people(8);
        x.bad(-1, 20);
        // 1 less (58975 by 65536) to the third
        due("eight people", x.one(3, 0), 281474976710656L - 58975L * 58975L * 58975L);
        due("eight people lower", x.one(3, 1), 281474976710656L);
        for (int m : new int[] {0, 4, -1, LOW, HIGH}) due("one " + m, x.one(m, 0), GONE_OUTSIDE);
        for (int p : new int[] {-1, 2, LOW, HIGH}) due("part " + p, x.one(1, p), GONE_OUTSIDE);
    }

    // Promise 22
    private static void many() {
        OpenEyes x = new OpenEyes();
        x.people(1);
        due("3 by 4 is reached", x.many(3, 4), 1);
        due("76 by 100", x.many(76, 100), 2);
        due("15 by 16 is reached", x.many(15, 16), 2);
        due("94 by 100", x.many(94, 100), 3);
        due("63 by 64 is reached", x.many(63, 64), 3);
        due("99 by 100", x.many(99, 100), NONE);
        due("1 by 1", x.many(1, 1), NONE);
        due("nought", x.many(0, 100), 1);
        x.bad(0, 0);
        due("sure", x.many(1, 1), 1);
        x.people(8);
        due("eight: 28 by 100 is not reached", x.many(28, 100), NONE);
        due("eight: 27 by 100", x.many(27, 100), 3);
        int[][] outside = {{1, 0}, {0, 0}, {-1, 5}, {6, 5}, {1, 101}, {0, -1}, {LOW, HIGH}, {HIGH, HIGH}};
        for (int[] ab : outside) due("many " + ab[0] + " " + ab[1], x.many(ab[0], ab[1]), OUTSIDE);
    }

    // Promise 23
    private static void shoot() {
        OpenEyes x = new OpenEyes();
        x.people(2);
        // From 1: 149, 11249; 57305, 38044; 35283, 24819: left over by four 1, 1; 1, 0; 3, 3.
        due("first", x.shoot(1, 3, 0), 0);
        due("how many", x.shoot(1, 3, 1), 2);
        due("of two", x.shoot(1, 2, 1), 1);
        due("a shoot of one", x.shoot(1, 1, 0), 0);
        x.bad(1, 0);
        due("how many then", x.shoot(1, 3, 1), 3);
        x.bad(0, 3);
        due("the third alone", x.shoot(1, 3, 0), 2);
        due("once", x.shoot(1, 3, 1), 1);
        due("not yet", x.shoot(1, 2, 0), NONE);
        due("not once", x.shoot(1, 2, 1), 0);
        x.bad(-1, 2);
        due("tired in the third", x.shoot(1, 3, 0), NONE);
        x.bad(-1, 3);
        due("not tired in the third", x.shoot(1, 3, 0), 2);
        x.bad(0, 0);
        x.bad(-1, 20);
        due("none is bad before they tire", x.shoot(9999, 20, 1), 20);
        x.bad(0, 4);
        due("never", x.shoot(0, 30, 0), NONE);
        int[][] outside = {{-1, 1, 0}, {10000, 1, 0}, {0, 0, 0}, {0, 31, 0}, {0, 1, -1}, {0, 1, 2}, {LOW, HIGH, LOW}};
        for (int[] a : outside) due("shoot " + Arrays.toString(a), x.shoot(a[0], a[1], a[2]), OUTSIDE);
        longShoot();
    }

    private static void longShoot() {
        OpenEyes x = new OpenEyes();
        x.people(1);
        x.bad(0, 0);
        int drawn = 5;
        int open = 0;
        for (int shot = 0; shot < 30; shot++) {
            drawn = (75 * drawn + 74) % 65537;
            if (shot < 20 || drawn % 4 >= 1) open++;
        }
        due("they tire in a shoot of thirty", x.shoot(5, 30, 1), open);
        check.holds("some are bad then", open < 30);
    }

    // Promise 24
    private static void stair() {
        OpenEyes x = new OpenEyes();
        int[][] right = {{1, 1}, {1, 4}, {2, 4}, {3, 1}, {3, 2}, {2, 2}};
        for (int[] rc : right) {
            due("stair " + Arrays.toString(rc), x.stair(rc[0], rc[1]), rc[0] * rc[1]);
            due("rows", x.told(7), rc[0]);
            due("columns", x.told(8), rc[1]);
        }
        int[][] outside = {{0, 1}, {1, 0}, {4, 1}, {1, 5}, {3, 3}, {3, 4}, {-1, -1}, {LOW, LOW}, {65536, 65536}, {HIGH, 2}};
        for (int[] rc : outside) due("stair " + Arrays.toString(rc), x.stair(rc[0], rc[1]), OUTSIDE);
        due("rows stay", x.told(7), 2);
        due("columns stay", x.told(8), 2);
    }

    // Promise 25
    private static void tall() {
        OpenEyes x = new OpenEyes();
        due("tall 250", x.tall(2, 250), 170);
        due("tall 0", x.tall(2, 0), 250);
        due("told tall", x.told(12), 0);
        due("tall 251", x.tall(2, 251), OUTSIDE);
        due("tall -1", x.tall(2, -1), OUTSIDE);
        due("rise 50", x.tall(-1, 50), 10);
        due("rise 0", x.tall(-1, 0), 50);
        due("rise 51", x.tall(-1, 51), OUTSIDE);
        due("rise -1", x.tall(-1, -1), OUTSIDE);
        for (int k : new int[] {4, -2, LOW, HIGH}) due("tall " + k, x.tall(k, 999), UNKNOWN);
    }

    // Promise 26
    private static void pair() {
        OpenEyes x = new OpenEyes();
        due("parted", x.pair(0, 3, 1), 0);
        due("together", x.pair(3, 0, 2), 1);
        due("neither", x.pair(0, 3, 0), 2);
        due("it was neither", x.pair(3, 0, 0), 0);
        due("how 3", x.pair(0, 1, 3), OUTSIDE);
        due("how -1", x.pair(0, 1, -1), OUTSIDE);
        int[][] unknown = {{0, 0}, {4, 0}, {0, 4}, {-1, 0}, {0, -1}, {4, 4}, {LOW, HIGH}};
        for (int[] p : unknown) due("pair " + Arrays.toString(p), x.pair(p[0], p[1], 7), UNKNOWN);
    }

    // Promise 27
    private static void judge() {
        OpenEyes x = stairOf(3, 2, 2);
        judged("good", x, "012", NONE, NONE);
        x.tall(1, 180);
        judged("hidden by one as tall", x, "203", 0, 1);
        x.tall(0, 190);
        judged("hidden by person 0", x, "021", 1, 1);
        x.tall(0, 170);
        judged("the last one is hidden", x, "213", 2, 1);
        x.tall(1, 179);
        judged("a little lower", x, "203", NONE, NONE);
        x.pair(1, 2, 1);
        judged("parted, at a corner", x, "203", NONE, NONE);
        judged("parted in a row", x, "201", 1, 2);
        judged("parted in a column", x, "013", 1, 2);
        x.pair(0, 1, 2);
        judged("not together", x, "031", 0, 3);
        x.tall(2, 250);
        judged("the first person counts, not the least", x, "031", 0, 3);
        judged("together in a column, parted in a row", x, "132", 1, 2);
        judged("together in a column, parted at a corner", x, "130", NONE, NONE);
        judged("hidden and beside one parted", x, "231", 1, 1);
        judged("hidden and not together", x, "301", 0, 1);
        x.pair(0, 2, 1);
        judged("beside one parted and not together", x, "031", 0, 2);
        refusedJudge();
        tallStair();
    }

    private static void refusedJudge() {
        OpenEyes x = stairOf(3, 2, 2);
        write(x, "01");
        due("too few", x.judge(0), NO);
        due("too few, what", x.judge(1), NO);
        write(x, "0123");
        due("too many", x.judge(0), NO);
        write(x, "001");
        due("twice", x.judge(0), NO);
        for (int what : new int[] {-1, 2, LOW, HIGH}) due("judge " + what, x.judge(what), OUTSIDE);
        write(x, "012");
        due("the pad stays", x.judge(0), NONE);
        due("three signs", x.told(0), 3);
    }

    private static void tallStair() {
        OpenEyes x = stairOf(2, 3, 2);
        x.tall(0, 150);
        judged("two rows rise twenty", x, "40", 0, 1);
        x.tall(1, 169);
        judged("and that is enough", x, "40", NONE, NONE);
        judged("another column", x, "50", NONE, NONE);
        x.tall(0, 159);
        judged("the one ahead is raised too", x, "42", 0, 1);
        x.tall(0, 160);
        judged("but by one row less", x, "42", NONE, NONE);
    }

    // Promise 28
    private static void placed() {
        OpenEyes x = stairOf(2, 1, 3);
        due("six", x.placed(-1), 6);
        x.pair(0, 1, 1);
        due("parted: two", x.placed(-1), 2);
        due("first 0", x.placed(0), 0);
        due("first 1", x.placed(1), 2);
        x.pair(0, 1, 2);
        due("together: four", x.placed(-1), 4);
        due("together 1", x.placed(1), 1);
        x.stair(3, 1);
        due("a column, side by side", x.placed(-1), 4);
        x.tall(-1, 0);
        due("all hide one another", x.placed(-1), 0);
        due("no place for 0", x.placed(0), NONE);
        due("no place for 1", x.placed(1), NONE);
        x.stair(1, 1);
        due("more people than places", x.placed(-1), STATE);
        due("for one of them too", x.placed(0), STATE);
        int[] nobody = {-2, 2, 7, 8, -673195092, LOW, HIGH};
        for (int i : nobody) due("state, whatever i is: " + i, x.placed(i), STATE);
        x.stair(1, 2);
        due("good ones", x.placed(-1), 2);
        for (int i : nobody) due("no person " + i, x.placed(i), NONE);
        x.pair(0, 1, 1);
        for (int i : nobody) due("no person, none good " + i, x.placed(i), NONE);
        OpenEyes y = stairOf(1, 1, 1);
        due("one on one", y.placed(-1), 1);
        due("its place", y.placed(0), 0);
        OpenEyes z = stairOf(8, 2, 4);
        for (int k = 0; k < 7; k++) z.pair(k, k + 1, 2);
        due("paths through two by four", z.placed(-1), 28);
        int[] snake = {0, 1, 2, 3, 7, 6, 5, 4};
        for (int k = 0; k < 8; k++) due("path " + k, z.placed(k), snake[k]);
    }

    private static void placedAfterChanges() {
        OpenEyes x = stairOf(2, 2, 1);
        due("both ways", x.placed(-1), 2);
        x.tall(0, 181);
        due("after tall", x.placed(-1), 1);
        x.image(0);
        x.tall(-1, 50);
        due("after rise", x.placed(-1), 2);
        x.pair(0, 1, 1);
        due("after pair", x.placed(-1), 0);
        x.stair(1, 3);
        due("after stair", x.placed(-1), 2);
        x.restore(0);
        due("after restore", x.placed(-1), 1);
        due("its first", x.placed(0), 1);
        x.people(1);
        due("after people", x.placed(-1), 2);
        due("the first then", x.placed(0), 0);
    }

    // Promises 29 and 30
    private static void fullImage() {
        OpenEyes x = with("osssssss", "soosssss", "ssssosss", "sssssoss", "ssssssos", "ssssssso", "sssossss",
            "tttttttt", "hhhhhhhh", "sthsthst");
        for (int k = 0; k < 8; k++) {
            x.blink(k, 2, 10 + k);
            x.bad(k, k % 5);
            x.tall(k, 200 + k);
        }
        x.pair(6, 7, 1);
        x.image(0);
        x.people(8);
        for (int s = 0; s < 10; s++) {
            write(x, "oooooooo");
            x.shot();
        }
        x.restore(0);
        due("all shots again", x.told(2), 10);
        due("their cover", x.cover(), 127);
        for (int k = 0; k < 8; k++) {
            due("its last looks", x.look(9, k), "sthsthst".charAt(k));
            due("its phases", x.blink(k, 2, 0), 10 + k);
            due("its quarters", x.told(20 + k), k % 5);
            due("its talls", x.told(10 + k), 200 + k);
        }
        due("its last pair", x.pair(7, 6, 0), 1);
    }

    private static void imageAndRestore() {
        OpenEyes x = new OpenEyes();
        for (int n : new int[] {-1, 2, LOW, HIGH}) {
            due("image " + n, x.image(n), OUTSIDE);
            due("restore " + n, x.restore(n), OUTSIDE);
        }
        x.people(3);
        write(x, "osh");
        x.shot();
        x.bride(1);
        x.hands(2);
        x.blink(2, 0, 44);
        x.blink(2, 1, 11);
        x.blink(2, 2, 3);
        x.flash(77);
        x.bad(2, 3);
        x.bad(-1, 4);
        x.stair(3, 2);
        x.tall(2, 201);
        x.tall(-1, 33);
        x.pair(0, 2, 2);
        write(x, "ab");
        due("image 1", x.image(1), 1);
        due("image 0 is none", x.restore(0), STATE);
        write(x, "oss");
        x.shot();
        x.people(5);
        x.flash(-1);
        x.bad(-1, 20);
        x.stair(1, 1);
        x.tall(-1, 0);
        due("image 0", x.image(0), 1);
        write(x, "abc");
        due("restore 1", x.restore(1), 1);
        due("the pad is not kept", x.told(0), 3);
        int[] told = {3, 3, 1, 1, 2, 77, 4, 3, 2, 33};
        for (int what = 0; what < told.length; what++) due("restored " + what, x.told(what), told[what]);
        due("restored tall", x.told(12), 201);
        due("restored quarters", x.told(22), 3);
        due("restored look", x.look(0, 2), 'h');
        due("restored cover", x.cover(), NONE);
        due("restored pair", x.pair(2, 0, 2), 2);
        due("restored shut", x.blink(2, 1, 11), 11);
        due("restored period", x.blink(2, 0, 44), 44);
        due("restored phase", x.blink(2, 2, 3), 3);
        x.tall(2, 5);
        write(x, "ooo");
        x.shot();
        due("restore once more", x.restore(1), 1);
        due("an image is not touched by changes", x.told(12), 201);
        due("nor by shots", x.told(2), 1);
        due("restore 0", x.restore(0), 1);
        due("five people", x.told(1), 5);
        due("image over image", x.image(1), 1);
        x.people(2);
        x.restore(1);
        due("the later one", x.told(1), 5);
        fullImage();
    }

    // Promise 31
    private static void told() {
        OpenEyes x = new OpenEyes();
        for (int what : new int[] {-1, 14, 19, 24, 30, LOW, LOW + 5, LOW + 15, HIGH}) {
            due("told " + what, x.told(what), OUTSIDE);
        }
        x.people(8);
        for (int k = 0; k < 8; k++) {
            x.tall(k, 100 + k);
            x.bad(k, k % 5);
        }
        for (int k = 0; k < 8; k++) {
            due("told tall " + k, x.told(10 + k), 100 + k);
            due("told quarters " + k, x.told(20 + k), k % 5);
        }
        due("told 18", x.told(18), OUTSIDE);
        due("told 28", x.told(28), OUTSIDE);
    }

    private static void refusalsChangeNothing() {
        OpenEyes x = with("osth");
        write(x, "os");
        x.people(0);
        x.bride(9);
        x.say(5);
        x.shot();
        x.hands(99);
        x.flash(-7);
        x.bad(0, 9);
        x.bad(-1, 99);
        x.stair(3, 3);
        x.tall(0, 999);
        x.tall(-1, 99);
        x.pair(0, 1, 9);
        x.blink(0, 0, 0);
        x.restore(0);
        int[] told = {2, 4, 1, NONE, 0, -1, 20, 2, 3, 10};
        for (int what = 0; what < told.length; what++) due("unchanged " + what, x.told(what), told[what]);
        due("unchanged tall", x.told(10), 170);
        due("unchanged quarters", x.told(20), 1);
        due("unchanged pair", x.pair(0, 1, 0), 0);
        due("unchanged period", x.blink(0, 0, 30), 30);
    }

    private static void refusalsInTheirOrder() {
        OpenEyes x = stairOf(4, 1, 1);
        due("unknown before outside: blink", x.blink(7, 7, 777), UNKNOWN);
        due("unknown before outside: bad", x.bad(7, 777), UNKNOWN);
        due("unknown before outside: tall", x.tall(7, 777), UNKNOWN);
        due("unknown before outside: pair", x.pair(1, 1, 777), UNKNOWN);
        due("state, though no such person: placed", x.placed(4), STATE);
        due("outside before no: judge", x.judge(2), OUTSIDE);
        due("outside before state: restore", x.restore(2), OUTSIDE);
    }
}
