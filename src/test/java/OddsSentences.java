/** The sentences of section 4 and of promises 19 to 23: odds, and shoots by draws. */
final class OddsSentences extends Eyes {
    private static final String DRAWS = "for each, for PEOPLE by numbers, x, the seed at first, becomes (75 x and 74) left"
        + " over by 65537: BAD, if x left over by 4 is below the quarters.";

    /** People with these quarters, who tire from a shot on. */
    private static OpenEyes tired(int from, int... quarters) {
        OpenEyes x = people(quarters.length);
        for (int k = 0; k < quarters.length; k++) x.bad(k, quarters[k]);
        x.bad(-1, from);
        return x;
    }

    @Says(at = "4", words = "ODDS: a PERSON is BAD in a SHOT to come with q quarters (0 to 4;")
    static void quartersNoughtToFour(Check c) {
        span(c, "quarters", 0, 4, OUTSIDE, v -> new OpenEyes().bad(0, v));
        int[][] open = {{1, 1}, {3, 4}, {1, 2}, {1, 4}, {0, 1}};
        for (int q = 0; q <= 4; q++) {
            OpenEyes x = tired(20, q);
            fraction(c, q + " quarters", x.likely(0, 0), x.likely(0, 1), open[q][0], open[q][1]);
        }
    }

    @Says(at = "4", words = "1 at first), each for itself;")
    static void oneQuarterAtFirst(Check c) {
        OpenEyes x = people(8);
        for (int k = 0; k < 8; k++) c.due("quarters of " + k, x.told(20 + k), 1);
        fraction(c, "eight, each for itself", x.likely(0, 0), x.likely(0, 1), 6561, 65536);
        OpenEyes y = tired(20, 0, 1, 2, 3);
        fraction(c, "four, each for itself", y.likely(0, 0), y.likely(0, 1), 3, 32);
    }

    @Says(at = "4", words = "from the TIRED one on (0 to 20;")
    static void tiredFromThatShotOn(Check c) {
        span(c, "tired", 0, 20, OUTSIDE, v -> new OpenEyes().bad(-1, v));
        for (int from = 0; from <= 20; from++) {
            OpenEyes x = tired(from, 0);
            for (int k = 0; k <= 20; k++) c.due("shot " + k + ", tired " + from, x.likely(k, 1), k < from ? 1 : 4);
        }
    }

    @Says(at = "4", words = "20 at first; numbered from 0 on)")
    static void tiredFromTwentyAtFirst(Check c) {
        OpenEyes x = people(1);
        c.due("told", x.told(6), 20);
        fraction(c, "shot 0", x.likely(0, 0), x.likely(0, 1), 3, 4);
        fraction(c, "shot 19", x.likely(19, 0), x.likely(19, 1), 3, 4);
        fraction(c, "shot 20", x.likely(20, 0), x.likely(20, 1), 1, 2);
        x.bad(-1, 0);
        fraction(c, "the first has the number 0", x.likely(0, 0), x.likely(0, 1), 1, 2);
    }

    @Says(at = "4", words = "with one quarter more (4 at most).")
    static void oneQuarterMoreFourAtMost(Check c) {
        int[][] open = {{3, 4}, {1, 2}, {1, 4}, {0, 1}, {0, 1}};
        for (int q = 0; q <= 4; q++) {
            OpenEyes x = tired(0, q);
            for (int k : new int[] {0, 1, 20}) {
                fraction(c, q + " quarters, tired, shot " + k, x.likely(k, 0), x.likely(k, 1), open[q][0], open[q][1]);
            }
        }
        OpenEyes x = tired(0, 4, 4);
        fraction(c, "two of four quarters", x.likely(0, 0), x.likely(0, 1), 0, 1);
        c.due("the quarters told are as they were", x.told(20), 4);
    }

    @Says(at = "4", words = "LIKELY: that in SHOT k to come (0 to 20) all are open.")
    static void likelyOfShotsNoughtToTwenty(Check c) {
        span(c, "likely", 0, 20, GONE_OUTSIDE, v -> new OpenEyes().likely(v, 0));
        OpenEyes x = tired(10, 1, 2);
        fraction(c, "before they tire", x.likely(9, 0), x.likely(9, 1), 3, 8);
        fraction(c, "when they tire", x.likely(10, 0), x.likely(10, 1), 1, 8);
        OpenEyes y = with("ss", "ss");
        fraction(c, "shots that were taken count for nothing", y.likely(0, 0), y.likely(0, 1), 9, 16);
    }

    @Says(at = "4", words = "ONE: that all are open in one at least of the first m to come (1 to 3).")
    static void oneOfTheFirstThree(Check c) {
        span(c, "one", 1, 3, GONE_OUTSIDE, v -> new OpenEyes().one(v, 0));
        OpenEyes x = tired(20, 1);
        fraction(c, "of one", x.one(1, 0), x.one(1, 1), 3, 4);
        fraction(c, "of two", x.one(2, 0), x.one(2, 1), 15, 16);
        fraction(c, "of three", x.one(3, 0), x.one(3, 1), 63, 64);
    }

    @Says(at = "4", words = "ONE: that all are open in one at least of the first m to come (1 to 3).")
    static void oneWhenPeopleTire(Check c) {
        fraction(c, "from 0 on", tired(0, 1).one(3, 0), tired(0, 1).one(3, 1), 7, 8);
        fraction(c, "from 1 on", tired(1, 1).one(3, 0), tired(1, 1).one(3, 1), 15, 16);
        fraction(c, "from 2 on", tired(2, 1).one(3, 0), tired(2, 1).one(3, 1), 31, 32);
        fraction(c, "from 3 on", tired(3, 1).one(3, 0), tired(3, 1).one(3, 1), 63, 64);
        fraction(c, "tired to four quarters", tired(1, 3).one(3, 0), tired(1, 3).one(3, 1), 1, 4);
    }

    @Says(at = "4", words = "ONE: that all are open in one at least of the first m to come (1 to 3).")
    static void oneOfEightPeople(Check c) {
        OpenEyes x = people(8);
        long other = 65536 - 6561;
        fraction(c, "as large as it gets", x.one(3, 0), x.one(3, 1), (1L << 48) - other * other * other, 1L << 48);
        OpenEyes y = tired(20, 3, 3, 3, 3, 3, 3, 3, 3);
        long most = 65535;
        fraction(c, "as small as it gets", y.one(3, 0), y.one(3, 1), (1L << 48) - most * most * most, 1L << 48);
    }

    @Says(at = "4", words = "MANY: the fewest m by which that is no less than a by b")
    static void fewestShotsToCome(Check c) {
        OpenEyes x = tired(20, 1);
        c.due("3 by 4 is reached by one", x.many(3, 4), 1);
        c.due("76 by 100 is not", x.many(76, 100), 2);
        c.due("15 by 16 is reached by two", x.many(15, 16), 2);
        c.due("94 by 100 is not", x.many(94, 100), 3);
        c.due("63 by 64 is reached by three", x.many(63, 64), 3);
        c.due("0 is reached by one", x.many(0, 1), 1);
        c.due("0 is reached even if it is never", tired(20, 4).many(0, 100), 1);
        c.due("1 is reached if it is sure", tired(20, 0).many(100, 100), 1);
        OpenEyes y = people(8);
        c.due("eight people, 10 by 100", y.many(10, 100), 1);
        c.due("eight people, 11 by 100", y.many(11, 100), 2);
        c.due("eight people, 27 by 100", y.many(27, 100), 3);
    }

    @Says(at = "4", words = "(b 1 to 100, a 0 to b);")
    static void boundsOfTheGoal(Check c) {
        span(c, "b", 1, 100, OUTSIDE, v -> new OpenEyes().many(0, v));
        for (int b : new int[] {1, 2, 50, 100}) {
            span(c, "a by " + b, 0, b, OUTSIDE, v -> new OpenEyes().many(v, b));
        }
    }

    @Says(at = "4", words = "NONE: not by 3.")
    static void notByThree(Check c) {
        c.due("99 by 100 of 63 by 64", tired(20, 1).many(99, 100), NONE);
        c.due("1 by 1 of 63 by 64", tired(20, 1).many(1, 1), NONE);
        c.due("1 by 100 of nought", tired(20, 4).many(1, 100), NONE);
        c.due("28 by 100 of eight people", people(8).many(28, 100), NONE);
    }

    @Says(at = "4", words = "A SHOOT by a seed (0 to 9999) of m SHOTS to come (1 to 30):")
    static void seedsAndLengths(Check c) {
        span(c, "seed", 0, 9999, OUTSIDE, v -> new OpenEyes().shoot(v, 1, 1));
        span(c, "m", 1, 30, OUTSIDE, v -> new OpenEyes().shoot(0, v, 1));
        c.due("one shot, sure", tired(20, 0).shoot(0, 1, 1), 1);
        c.due("twenty shots, sure", tired(20, 0).shoot(9999, 20, 1), 20);
    }

    @Says(at = "4", words = DRAWS)
    static void drawsByHand(Check c) {
        // From 1: 149, 11249; 57305, 38044; 35283, 24819: left over by four 1, 1; 1, 0; 3, 3.
        c.due("x is below 1 once", tired(20, 1, 1).shoot(1, 3, 1), 2);
        c.due("not of person 0", tired(20, 1, 0).shoot(1, 3, 1), 3);
        c.due("1 is below 2", tired(20, 2, 0).shoot(1, 3, 1), 1);
        c.due("3 is not below 3", tired(20, 3, 3).shoot(1, 3, 1), 1);
        c.due("and is below 4", tired(20, 3, 4).shoot(1, 3, 1), 0);
        c.due("the seed is no draw itself", tired(20, 2).shoot(0, 1, 1), 1);
    }

    @Says(at = "4", words = DRAWS)
    static void drawsComeRoundBy65537(Check c) {
        for (int seed : new int[] {0, 1, 873, 874, 5000, 9998, 9999}) {
            for (int n = 1; n <= 8; n++) {
                OpenEyes x = people(n);
                int good = 0;
                int first = NONE;
                long drawn = seed;
                for (int shot = 0; shot < 30; shot++) {
                    boolean all = true;
                    for (int k = 0; k < n; k++) {
                        drawn = (75 * drawn + 74) % 65537;
                        // Shots from 20 on are tired ones.
                        if (drawn % 4 < (shot < 20 ? 1 : 2)) all = false;
                    }
                    if (all && good == 0) first = shot;
                    if (all) good++;
                }
                c.due("first of thirty, seed " + seed + ", people " + n, x.shoot(seed, 30, 0), first);
                c.due("how many of thirty, seed " + seed + ", people " + n, x.shoot(seed, 30, 1), good);
            }
        }
    }

    @Says(at = "4", words = DRAWS)
    static void quartersOfTiredPeopleInAShoot(Check c) {
        // The third draws of person 0 and 1 are both 3, left over by four.
        c.due("three quarters, not tired in the third", tired(3, 3, 3).shoot(1, 3, 0), 2);
        c.due("tired in the third", tired(2, 3, 3).shoot(1, 3, 0), NONE);
        c.due("four at most, so never open", tired(0, 4, 4).shoot(1, 30, 1), 0);
        c.due("no quarters, not tired", tired(20, 0, 0).shoot(1, 20, 1), 20);
    }

    @Says(at = "4", words = "The first SHOT in which all are open; in how many.")
    static void firstAndHowMany(Check c) {
        c.due("the first is the first", tired(20, 1, 1).shoot(1, 3, 0), 0);
        c.due("the third is the first", tired(20, 3, 0).shoot(1, 3, 0), 2);
        c.due("in one", tired(20, 3, 0).shoot(1, 3, 1), 1);
        c.due("the thirtieth counts", tired(20, 0).shoot(4, 30, 1) - tired(20, 0).shoot(4, 29, 1), lastIsOpen(4));
    }

    /** 1, if one person who is tired is open in the thirtieth shot. */
    private static int lastIsOpen(int seed) {
        int x = seed;
        for (int draw = 0; draw < 30; draw++) x = (75 * x + 74) % 65537;
        return x % 4 < 1 ? 0 : 1;
    }

    @Says(at = "Promise 19", words = "Quarters of a PERSON (person = -1: TIRED): which it was.")
    static void whichTheQuartersWere(Check c) {
        OpenEyes x = people(8);
        for (int k : new int[] {0, 7}) {
            c.due("at first", x.bad(k, 4), 1);
            c.due("four", x.bad(k, 0), 4);
            c.due("nought", x.bad(k, 3), 0);
            c.due("told", x.told(20 + k), 3);
        }
        c.due("others are as at first", x.told(21), 1);
        c.due("tired at first", x.bad(-1, 0), 20);
        c.due("tired 0", x.bad(-1, 20), 0);
        c.due("told tired", x.told(6), 20);
    }

    @Says(at = "Promise 19", words = "UNKNOWN;")
    static void quartersOfNobody(Check c) {
        for (int n : new int[] {1, 4, 8}) {
            OpenEyes x = people(n);
            refused(c, "bad, " + n + " people:", UNKNOWN, v -> x.bad(v, 1), n, n + 1, 8, -2, LOW, HIGH);
        }
    }

    @Says(at = "Promise 19", words = "OUTSIDE.")
    static void quartersTooManyOrTooFew(Check c) {
        span(c, "quarters", 0, 4, OUTSIDE, v -> new OpenEyes().bad(3, v));
        span(c, "tired", 0, 20, OUTSIDE, v -> new OpenEyes().bad(-1, v));
    }

    @Says(at = "Promise 20", words = "LIKELY.")
    static void likelyInLowestTerms(Check c) {
        OpenEyes x = tired(20, 2, 2, 2, 2, 2, 2, 2, 2);
        fraction(c, "eight halves", x.likely(0, 0), x.likely(0, 1), 1, 256);
        fraction(c, "eight quarters", x.likely(20, 0), x.likely(20, 1), 1, 65536);
    }

    @Says(at = "Promise 20", words = "OUTSIDE.")
    static void likelyOfNoShot(Check c) {
        for (int part = 0; part <= 1; part++) {
            int of = part;
            span(c, "likely", 0, 20, GONE_OUTSIDE, v -> new OpenEyes().likely(v, of));
        }
        span(c, "part", 0, 1, GONE_OUTSIDE, v -> new OpenEyes().likely(20, v));
        c.due("both", new OpenEyes().likely(21, 2), GONE_OUTSIDE);
    }

    @Says(at = "Promise 21", words = "ONE.")
    static void oneInLowestTerms(Check c) {
        OpenEyes x = tired(20, 2);
        fraction(c, "one half", x.one(1, 0), x.one(1, 1), 1, 2);
        fraction(c, "of two halves", x.one(2, 0), x.one(2, 1), 3, 4);
        fraction(c, "of three halves", x.one(3, 0), x.one(3, 1), 7, 8);
    }

    @Says(at = "Promise 21", words = "OUTSIDE.")
    static void oneOfTooFewOrTooMany(Check c) {
        for (int part = 0; part <= 1; part++) {
            int of = part;
            span(c, "one", 1, 3, GONE_OUTSIDE, v -> new OpenEyes().one(v, of));
        }
        span(c, "part", 0, 1, GONE_OUTSIDE, v -> new OpenEyes().one(3, v));
        c.due("both", new OpenEyes().one(0, -1), GONE_OUTSIDE);
    }

    @Says(at = "Promise 22", words = "MANY;")
    static void manyWhenPeopleTire(Check c) {
        OpenEyes x = tired(1, 3);
        c.due("one by four by one", x.many(1, 4), 1);
        c.due("26 by 100 not by more, when they tire", x.many(26, 100), NONE);
        x.bad(-1, 20);
        c.due("else by two", x.many(26, 100), 2);
    }

    @Says(at = "Promise 22", words = "NONE.")
    static void manyOfNone(Check c) {
        c.due("never", tired(0, 3).many(1, 100), NONE);
        c.due("not surely", new OpenEyes().many(100, 100), NONE);
    }

    @Says(at = "Promise 22", words = "OUTSIDE.")
    static void goalsThatThereAreNot(Check c) {
        int[][] goals = {{0, 0}, {1, 0}, {-1, 1}, {2, 1}, {101, 100}, {-1, 100}, {0, 101}, {101, 101}, {0, -1}, {-1, -1},
            {LOW, LOW}, {HIGH, HIGH}, {LOW, HIGH}, {HIGH, LOW}};
        for (int[] g : goals) c.due("many " + g[0] + " by " + g[1], new OpenEyes().many(g[0], g[1]), OUTSIDE);
    }

    @Says(at = "Promise 23", words = "A SHOOT: the first (what = 0; NONE),")
    static void noShotOfAShoot(Check c) {
        c.due("never", tired(20, 4).shoot(0, 30, 0), NONE);
        c.due("not of two", tired(20, 3, 0).shoot(1, 2, 0), NONE);
        c.due("of three", tired(20, 3, 0).shoot(1, 3, 0), 2);
    }

    @Says(at = "Promise 23", words = "how many (1).")
    static void howManyOfAShoot(Check c) {
        c.due("never", tired(20, 4).shoot(0, 30, 1), 0);
        c.due("not of two", tired(20, 3, 0).shoot(1, 2, 1), 0);
        c.due("always", tired(20, 0).shoot(1, 20, 1), 20);
        OpenEyes x = with("s", "s");
        x.bad(0, 0);
        c.due("shots that were taken count for nothing", x.shoot(1, 20, 1), 20);
        c.due("nor does a shoot take any", x.told(2), 2);
    }

    @Says(at = "Promise 23", words = "OUTSIDE.")
    static void shootsThatThereAreNot(Check c) {
        for (int what = 0; what <= 1; what++) {
            int of = what;
            span(c, "seed", 0, 9999, OUTSIDE, v -> new OpenEyes().shoot(v, 30, of));
            span(c, "m", 1, 30, OUTSIDE, v -> new OpenEyes().shoot(9999, v, of));
        }
        span(c, "what", 0, 1, OUTSIDE, v -> new OpenEyes().shoot(9999, 30, v));
    }
}
