import java.util.Random;

/** Random runs of 512 calls, each answer beside that of PlainEyes. */
public final class PlainTest {
    private static final int RUNS = 400;
    private static final int CALLS = 512;
    private static final int KINDS = 30;
    private static final Check check = new Check();

    private final Random random;
    private final String run;
    private final OpenEyes x = new OpenEyes();
    private final PlainEyes y = new PlainEyes();
    private final int mostPeople;

    private PlainTest(int seed) {
        random = new Random(seed);
        run = "run " + seed;
        // Full stairs are slow the plain way: few runs have them.
        mostPeople = seed % 40 == 0 ? 8 : 3 + seed % 4;
    }

    public static void main(String[] args) {
        for (int seed = 0; seed < RUNS; seed++) new PlainTest(seed).go();
        check.end("PlainTest");
    }

    private void go() {
        int calls = 0;
        x.people(mostPeople);
        y.people(mostPeople);
        while (calls < CALLS - 14) {
            calls += random.nextInt(6) == 0 ? writeShot() : random.nextInt(9) == 0 ? writeStanding() : any();
        }
    }

    private void due(String call, long got, long want) {
        check.due(run + ": " + call, got, want);
    }

    private int upTo(int least, int most) {
        return least + random.nextInt(most - least + 1);
    }

    /** Mostly within the bounds, now and then just beside them, seldom far away. */
    private int near(int least, int most) {
        int kind = random.nextInt(60);
        if (kind == 0) return least - 1;
        if (kind == 1) return most + 1;
        if (kind == 2) return random.nextInt();
        if (kind == 3) return Integer.MIN_VALUE + random.nextInt(40);
        if (kind == 4) return Integer.MAX_VALUE - random.nextInt(40);
        if (kind < 8) return random.nextBoolean() ? least : most;
        return upTo(least, most);
    }

    private int person() {
        return near(0, y.told(1) - 1);
    }

    private int writeShot() {
        due("wipe", x.wipe(), y.wipe());
        int n = y.told(1);
        for (int k = 0; k < n; k++) {
            int sign = "oooosth".charAt(random.nextInt(7));
            due("say " + sign, x.say(sign), y.say(sign));
        }
        due("fault 0", x.fault(0), y.fault(0));
        due("shot", x.shot(), y.shot());
        return n + 3;
    }

    private int writeStanding() {
        due("wipe", x.wipe(), y.wipe());
        int n = y.told(1);
        int places = y.told(7) * y.told(8);
        int shift = random.nextInt(8);
        for (int k = 0; k < n; k++) {
            int sign = '0' + (random.nextInt(30) == 0 ? random.nextInt(9) : (k * 7 + shift) % places);
            due("say " + sign, x.say(sign), y.say(sign));
        }
        due("fault 1", x.fault(1), y.fault(1));
        due("judge 0", x.judge(0), y.judge(0));
        due("judge 1", x.judge(1), y.judge(1));
        return n + 4;
    }

    private int any() {
        int kind = random.nextInt(KINDS);
        if (kind < 10) askShots(kind);
        else if (kind < 20) askOdds(kind);
        else askStair(kind);
        return 1;
    }

    private void askShots(int kind) {
        int a;
        switch (kind) {
            case 0:
                if (random.nextInt(8) != 0) return;
                a = near(1, mostPeople);
                if (a <= mostPeople || a > 8) due("people " + a, x.people(a), y.people(a));
                return;
            case 1: a = near(-1, y.told(1) - 1); due("bride " + a, x.bride(a), y.bride(a)); return;
            case 2: a = near(33, 126); due("say " + a, x.say(a), y.say(a)); return;
            case 3: if (random.nextInt(9) == 0) due("wipe", x.wipe(), y.wipe()); return;
            case 4: a = near(0, 1); due("fault " + a, x.fault(a), y.fault(a)); return;
            case 5: int b = person(); a = near(0, 9); due("look " + a + " " + b, x.look(a, b), y.look(a, b)); return;
            case 6: a = near(0, 1); due("single " + a, x.single(a), y.single(a)); return;
            case 7: due("cover", x.cover(), y.cover()); return;
            case 8: a = near(0, 1); due("spoils " + a, x.spoils(a), y.spoils(a)); return;
            default: a = near(0, (1 << (y.told(1) - 1)) - 1); due("hands " + a, x.hands(a), y.hands(a));
        }
    }

    private void askOdds(int kind) {
        int a, b, c;
        switch (kind) {
            case 10: a = near(-1, y.told(1) - 1); due("heads " + a, x.heads(a), y.heads(a)); return;
            case 11: due("left", x.left(), y.left()); return;
            case 12:
                a = person();
                b = near(0, 2);
                c = random.nextBoolean() ? near(0, 6) : near(0, 60);
                due("blink " + a + " " + b + " " + c, x.blink(a, b, c), y.blink(a, b, c));
                return;
            case 13: a = near(-1, 999); due("flash " + a, x.flash(a), y.flash(a)); return;
            case 14: a = near(0, 999); due("open " + a, x.open(a), y.open(a)); return;
            case 15:
                a = near(0, 999);
                b = random.nextBoolean() ? near(0, 999) : a + random.nextInt(30);
                c = near(0, 2);
                due("fire " + a + " " + b + " " + c, x.fire(a, b, c), y.fire(a, b, c));
                return;
            case 16:
                a = near(-1, y.told(1) - 1);
                b = a == -1 ? near(0, random.nextBoolean() ? 20 : 3) : near(0, random.nextBoolean() ? 4 : 1);
                due("bad " + a + " " + b, x.bad(a, b), y.bad(a, b));
                return;
            case 17: a = near(0, 20); b = near(0, 1); due("likely " + a + " " + b, x.likely(a, b), y.likely(a, b)); return;
            case 18: a = near(1, 3); b = near(0, 1); due("one " + a + " " + b, x.one(a, b), y.one(a, b)); return;
            default: b = near(1, 100); a = near(0, Math.max(0, Math.min(b, 100))); due("many " + a + " " + b, x.many(a, b), y.many(a, b));
        }
    }

    private void askStair(int kind) {
        int a, b, c;
        switch (kind) {
            case 20:
                a = near(0, 9999);
                b = near(1, 30);
                c = near(0, 1);
                due("shoot " + a + " " + b + " " + c, x.shoot(a, b, c), y.shoot(a, b, c));
                return;
            case 21: a = near(1, 3); b = near(1, 4); due("stair " + a + " " + b, x.stair(a, b), y.stair(a, b)); return;
            case 22:
                a = near(-1, y.told(1) - 1);
                b = a == -1 ? near(0, 50) : random.nextBoolean() ? near(0, 250) : near(160, 190);
                due("tall " + a + " " + b, x.tall(a, b), y.tall(a, b));
                return;
            case 23:
                a = person();
                b = person();
                c = random.nextInt(3) == 0 ? near(0, 2) : 0;
                due("pair " + a + " " + b + " " + c, x.pair(a, b, c), y.pair(a, b, c));
                return;
            case 24: a = near(0, 1); due("judge " + a, x.judge(a), y.judge(a)); return;
            case 25: case 26:
                if (mostPeople > 6 && random.nextInt(6) != 0) return;
                a = near(-1, y.told(1) - 1);
                due("placed " + a, x.placed(a), y.placed(a));
                return;
            case 27:
                if (random.nextInt(3) != 0) return;
                a = near(0, 1);
                due("image " + a, x.image(a), y.image(a));
                return;
            case 28:
                if (random.nextInt(4) != 0) return;
                a = near(0, 1);
                due("restore " + a, x.restore(a), y.restore(a));
                return;
            default: a = near(0, 28); due("told " + a, x.told(a), y.told(a));
        }
    }
}
