/** The sentences of section 5 and of promises 24 to 31: the stair, standings, images, what is told. */
final class StairSentences extends Eyes {
    private static final String HIDDEN = "Somebody is HIDDEN by who stands in the same COLUMN, in some ROW ahead, if his TALL"
        + " and what his ROWS rise are no more than that one's.";
    private static final String NEIGHBOURS = "Neighbours are in one ROW or one COLUMN, side by side.";
    private static final int[][] STAIRS = {{1, 1}, {1, 2}, {1, 3}, {1, 4}, {2, 1}, {2, 2}, {2, 3}, {2, 4}, {3, 1}, {3, 2}};

    /** Two people of whom the second is so much taller, on a stair that rises by ten. */
    private static OpenEyes taller(int rows, int columns, int by) {
        OpenEyes x = stairOf(2, rows, columns);
        x.tall(0, 100);
        x.tall(1, 100 + by);
        return x;
    }

    @Says(at = "5", words = "THE STAIR: ROWS (1 to 3) and COLUMNS (1 to 4),")
    static void rowsAndColumns(Check c) {
        span(c, "rows", 1, 3, OUTSIDE, v -> new OpenEyes().stair(v, 2));
        span(c, "columns", 1, 4, OUTSIDE, v -> new OpenEyes().stair(2, v));
    }

    @Says(at = "5", words = "ROWS times COLUMNS PLACES (8 at most),")
    static void eightPlacesAtMost(Check c) {
        for (int[] s : STAIRS) c.due("places", new OpenEyes().stair(s[0], s[1]), s[0] * s[1]);
        c.due("nine", new OpenEyes().stair(3, 3), OUTSIDE);
        c.due("twelve", new OpenEyes().stair(3, 4), OUTSIDE);
    }

    @Says(at = "5", words = "numbered row by row from the front on")
    static void placesRowByRow(Check c) {
        OpenEyes x = taller(2, 3, 20);
        judged(c, "place 3 is behind place 0", x, "30", 0, 1);
        judged(c, "place 5 is behind place 2", x, "52", 0, 1);
        judged(c, "place 0 is ahead", x, "03", NONE, NONE);
        judged(c, "place 1 is in the same row", x, "10", NONE, NONE);
        OpenEyes y = taller(3, 2, 20);
        judged(c, "place 2 is behind place 0", y, "20", 0, 1);
        judged(c, "place 5 is behind place 1", y, "51", 0, 1);
    }

    @Says(at = "5", words = "(2, 3 at first).")
    static void twoByThreeAtFirst(Check c) {
        OpenEyes x = new OpenEyes();
        c.due("rows", x.told(7), 2);
        c.due("columns", x.told(8), 3);
        faults(c, x, 1, "5", 1);
        faults(c, x, 1, "6", 0);
    }

    @Says(at = "5", words = "PEOPLE have a TALL (0 to 250; 170 at first),")
    static void tallOfPeople(Check c) {
        span(c, "tall", 0, 250, OUTSIDE, v -> new OpenEyes().tall(0, v));
        OpenEyes x = new OpenEyes();
        for (int k = 0; k < 4; k++) c.due("of a new object, " + k, x.told(10 + k), 170);
        x.people(8);
        for (int k = 0; k < 8; k++) c.due("at first, " + k, x.told(10 + k), 170);
    }

    @Says(at = "5", words = "each ROW is RISE higher than the one ahead (0 to 50; 10 at first).")
    static void riseOfRows(Check c) {
        span(c, "rise", 0, 50, OUTSIDE, v -> new OpenEyes().tall(-1, v));
        c.due("at first", new OpenEyes().told(9), 10);
        judged(c, "one row, ten", taller(3, 1, 9), "10", NONE, NONE);
        judged(c, "one row, not more", taller(3, 1, 10), "10", 0, 1);
        judged(c, "two rows, twenty", taller(3, 1, 19), "20", NONE, NONE);
        judged(c, "two rows, not more", taller(3, 1, 20), "20", 0, 1);
        OpenEyes flat = taller(2, 1, 0);
        flat.tall(-1, 0);
        judged(c, "no rise at all", flat, "10", 0, 1);
        OpenEyes steep = taller(3, 1, 99);
        steep.tall(-1, 50);
        judged(c, "fifty twice", steep, "20", NONE, NONE);
        steep.tall(1, 200);
        judged(c, "not more", steep, "20", 0, 1);
    }

    @Says(at = "5", words = "A STANDING puts PEOPLE to PLACES, no two to one.")
    static void noTwoToOnePlace(Check c) {
        OpenEyes x = stairOf(2, 1, 2);
        faults(c, x, 1, "00", 1);
        faults(c, x, 1, "11", 1);
        c.due("two standings of two", x.placed(-1), 2);
        c.due("six of two on three", stairOf(2, 1, 3).placed(-1), 6);
        c.due("all standings of four on four", stairOf(4, 1, 4).placed(-1), 24);
    }

    @Says(at = "5", words = HIDDEN)
    static void hiddenByOneAsHigh(Check c) {
        judged(c, "lower", taller(2, 2, 11), "20", 0, 1);
        judged(c, "as high", taller(2, 2, 10), "20", 0, 1);
        judged(c, "higher", taller(2, 2, 9), "20", NONE, NONE);
    }

    @Says(at = "5", words = HIDDEN)
    static void hiddenInTheSameColumnAlone(Check c) {
        OpenEyes x = taller(2, 2, 150);
        judged(c, "the other column", x, "30", NONE, NONE);
        judged(c, "the same one", x, "31", 0, 1);
        judged(c, "one row", x, "10", NONE, NONE);
        judged(c, "ahead is not behind", x, "02", NONE, NONE);
    }

    @Says(at = "5", words = HIDDEN)
    static void hiddenFromSomeRowAhead(Check c) {
        OpenEyes x = taller(3, 2, 20);
        judged(c, "two rows ahead, and nobody between", x, "40", 0, 1);
        judged(c, "the row ahead", x, "42", 0, 1);
        judged(c, "from the row in the middle", x, "20", 0, 1);
        x.tall(1, 119);
        judged(c, "a raised one hides more", x, "42", 0, 1);
        judged(c, "than one in front", x, "40", NONE, NONE);
        OpenEyes y = stairOf(3, 3, 1);
        y.tall(2, 189);
        judged(c, "between them is one who hides nobody", y, "210", 1, 1);
    }

    @Says(at = "5", words = NEIGHBOURS)
    static void neighboursOnEachStair(Check c) {
        for (int[] s : STAIRS) {
            for (int p = 0; p < s[0] * s[1]; p++) {
                for (int q = 0; q < s[0] * s[1]; q++) {
                    if (p == q) continue;
                    boolean row = p / s[1] == q / s[1] && Math.abs(p - q) == 1;
                    boolean column = p % s[1] == q % s[1] && Math.abs(p / s[1] - q / s[1]) == 1;
                    OpenEyes x = stairOf(2, s[0], s[1]);
                    x.pair(0, 1, 1);
                    String standing = "01234567".substring(p, p + 1) + "01234567".substring(q, q + 1);
                    write(x, standing);
                    String name = standing + " on " + s[0] + " by " + s[1];
                    c.due("parted, " + name, x.judge(1), row || column ? 2 : NONE);
                    x.pair(0, 1, 2);
                    c.due("together, " + name, x.judge(1), row || column ? NONE : 3);
                }
            }
        }
    }

    @Says(at = "5", words = NEIGHBOURS)
    static void endOfARowIsNotBesideTheNext(Check c) {
        OpenEyes x = stairOf(2, 2, 3);
        x.pair(0, 1, 1);
        judged(c, "places 2 and 3", x, "23", NONE, NONE);
        judged(c, "the two ends of a row", x, "02", NONE, NONE);
        judged(c, "at a corner", x, "04", NONE, NONE);
        x.stair(3, 1);
        judged(c, "the two ends of a column", x, "02", NONE, NONE);
        judged(c, "places 1 and 2 of a column", x, "12", 0, 2);
    }

    @Says(at = "5", words = "PAIRS are PARTED (not to be neighbours), or TOGETHER (to be).")
    static void partedOrTogether(Check c) {
        OpenEyes x = stairOf(2, 1, 3);
        judged(c, "neither, beside", x, "01", NONE, NONE);
        judged(c, "neither, not beside", x, "02", NONE, NONE);
        x.pair(0, 1, 1);
        judged(c, "parted, beside", x, "01", 0, 2);
        judged(c, "parted, not beside", x, "02", NONE, NONE);
        x.pair(1, 0, 2);
        judged(c, "together, beside", x, "01", NONE, NONE);
        judged(c, "together, not beside", x, "02", 0, 3);
    }

    @Says(at = "5", words = "A STANDING is GOOD, if none is HIDDEN, none PARTED are neighbours, all TOGETHER are.")
    static void goodStandings(Check c) {
        OpenEyes x = stairOf(3, 1, 4);
        x.pair(0, 1, 2);
        x.pair(1, 2, 1);
        judged(c, "all is right", x, "103", NONE, NONE);
        judged(c, "parted beside", x, "012", 1, 2);
        judged(c, "not together", x, "031", 0, 3);
        // 013, 102, 103, 120, 213, 230, 231, 320.
        c.due("how many are good", x.placed(-1), 8);
        OpenEyes y = taller(2, 1, 10);
        c.due("one is hidden in one of two", y.placed(-1), 1);
        c.due("the good one", y.placed(0), 0);
    }

    @Says(at = "5", words = "JUDGED: of a STANDING told (a text: n digits, PLACES of PEOPLE):")
    static void standingAsAText(Check c) {
        OpenEyes x = taller(2, 2, 10);
        judged(c, "person 0 at place 2", x, "20", 0, 1);
        judged(c, "person 0 at place 0", x, "02", NONE, NONE);
        OpenEyes y = stairOf(8, 2, 4);
        y.tall(7, 200);
        judged(c, "eight people", y, "01234567", NONE, NONE);
        judged(c, "eight people, the last in front", y, "76543210", 3, 1);
    }

    @Says(at = "5", words = "the first PERSON with something wrong, and what: 1 HIDDEN,")
    static void firstPersonWithSomethingWrong(Check c) {
        OpenEyes x = stairOf(4, 2, 2);
        x.tall(0, 200);
        x.tall(1, 200);
        judged(c, "2 and 3 are hidden", x, "0123", 2, 1);
        judged(c, "3 and 2 are hidden", x, "0132", 2, 1);
        judged(c, "nobody is", x, "2301", NONE, NONE);
        x.pair(0, 3, 2);
        judged(c, "person 0 is told, though 2 is hidden, too", x, "0123", 0, 3);
        x.pair(0, 3, 0);
        x.pair(2, 3, 1);
        judged(c, "the first of two who are parted", x, "2301", 2, 2);
    }

    @Says(at = "5", words = "2 a neighbour from whom it is PARTED,")
    static void besideOneParted(Check c) {
        OpenEyes x = stairOf(3, 1, 3);
        x.pair(1, 2, 1);
        judged(c, "in a row", x, "012", 1, 2);
        judged(c, "the other way round", x, "021", 1, 2);
        judged(c, "not beside", x, "102", NONE, NONE);
        x.stair(3, 1);
        judged(c, "in a column", x, "012", 1, 2);
    }

    @Says(at = "5", words = "3 not beside whom it is TOGETHER with;")
    static void notBesideOneTogether(Check c) {
        OpenEyes x = stairOf(3, 1, 3);
        x.pair(1, 2, 2);
        judged(c, "beside", x, "012", NONE, NONE);
        judged(c, "not beside", x, "102", 1, 3);
        x.pair(0, 2, 2);
        judged(c, "beside one of two", x, "012", 0, 3);
        judged(c, "beside two", x, "021", NONE, NONE);
    }

    @Says(at = "5", words = "the least. PLACED")
    static void leastOfWhatIsWrong(Check c) {
        OpenEyes x = stairOf(3, 2, 2);
        x.tall(1, 250);
        x.pair(0, 1, 1);
        judged(c, "1 before 2", x, "201", 0, 1);
        x.pair(0, 2, 2);
        judged(c, "1 before 2 and 3", x, "201", 0, 1);
        judged(c, "2 before 3", x, "013", 0, 2);
        x.pair(0, 1, 0);
        judged(c, "1 before 3", x, "201", 0, 1);
        judged(c, "3 alone", x, "013", 0, 3);
        x.pair(0, 1, 2);
        x.pair(0, 2, 1);
        judged(c, "2 before 3, told the other way round", x, "031", 0, 2);
    }

    @Says(at = "5", words = "PLACED: GOOD STANDINGS: how many, the first (PERSON 0's PLACE first).")
    static void firstGoodStanding(Check c) {
        OpenEyes x = stairOf(3, 1, 3);
        placedAre(c, "nothing is wrong", x, 6, 0, 1, 2);
        x.pair(0, 1, 1);
        placedAre(c, "0 and 1 parted", x, 2, 0, 2, 1);
        x.pair(0, 1, 0);
        x.pair(1, 2, 1);
        placedAre(c, "1 and 2 parted", x, 2, 1, 0, 2);
        OpenEyes y = taller(2, 1, 10);
        y.tall(1, 80);
        y.tall(0, 100);
        placedAre(c, "the tall one behind", y, 1, 1, 0);
    }

    private static void placedAre(Check c, String name, OpenEyes x, int count, int... places) {
        c.due(name + ": how many", x.placed(-1), count);
        for (int k = 0; k < places.length; k++) c.due(name + ": place of " + k, x.placed(k), places[k]);
    }

    @Says(at = "Promise 24", words = "ROWS and COLUMNS: PLACES.")
    static void howManyPlaces(Check c) {
        OpenEyes x = new OpenEyes();
        for (int[] s : STAIRS) {
            c.due("places", x.stair(s[0], s[1]), s[0] * s[1]);
            c.due("rows", x.told(7), s[0]);
            c.due("columns", x.told(8), s[1]);
        }
    }

    @Says(at = "Promise 24", words = "OUTSIDE: also more than 8 PLACES.")
    static void moreThanEightPlaces(Check c) {
        OpenEyes x = new OpenEyes();
        c.due("eight", x.stair(2, 4), 8);
        int[][] outside = {{3, 3}, {3, 4}, {0, 1}, {1, 0}, {0, 0}, {4, 1}, {1, 5}, {4, 2}, {-1, -1}, {-2, -4}, {1, 8}, {8, 1},
            {LOW, LOW}, {HIGH, HIGH}, {65536, 65536}, {LOW, 2}, {2, LOW}, {HIGH, 2}, {2, HIGH}};
        for (int[] s : outside) c.due("stair " + s[0] + " by " + s[1], x.stair(s[0], s[1]), OUTSIDE);
        c.due("rows stay", x.told(7), 2);
        c.due("columns stay", x.told(8), 4);
    }

    @Says(at = "Promise 25", words = "TALL of a PERSON (person = -1: RISE): which it was.")
    static void whichTheTallWas(Check c) {
        OpenEyes x = people(8);
        for (int k : new int[] {0, 7}) {
            c.due("at first", x.tall(k, 250), 170);
            c.due("250", x.tall(k, 0), 250);
            c.due("0", x.tall(k, 1), 0);
            c.due("told", x.told(10 + k), 1);
        }
        c.due("others are as at first", x.told(11), 170);
        c.due("rise at first", x.tall(-1, 50), 10);
        c.due("rise 50", x.tall(-1, 0), 50);
        c.due("rise 0", x.tall(-1, 0), 0);
    }

    @Says(at = "Promise 25", words = "UNKNOWN;")
    static void tallOfNobody(Check c) {
        for (int n : new int[] {1, 4, 8}) {
            OpenEyes x = people(n);
            refused(c, "tall, " + n + " people:", UNKNOWN, v -> x.tall(v, 1), n, n + 1, 8, -2, LOW, HIGH);
        }
    }

    @Says(at = "Promise 25", words = "OUTSIDE.")
    static void tooTall(Check c) {
        span(c, "tall", 0, 250, OUTSIDE, v -> new OpenEyes().tall(3, v));
        span(c, "rise", 0, 50, OUTSIDE, v -> new OpenEyes().tall(-1, v));
    }

    @Says(at = "Promise 26", words = "Two PEOPLE are PARTED (how = 1), TOGETHER (2), neither (0): which it was.")
    static void whichThePairWas(Check c) {
        OpenEyes x = people(8);
        c.due("neither at first", x.pair(0, 7, 1), 0);
        c.due("parted", x.pair(0, 7, 2), 1);
        c.due("together", x.pair(0, 7, 0), 2);
        c.due("neither", x.pair(0, 7, 2), 0);
        c.due("the other way round", x.pair(7, 0, 1), 2);
        c.due("and back", x.pair(0, 7, 0), 1);
        x.pair(1, 2, 2);
        c.due("other pairs are neither", x.pair(1, 3, 0), 0);
        c.due("nor is 2 and 3", x.pair(2, 3, 0), 0);
        c.due("that one stays", x.pair(2, 1, 0), 2);
    }

    @Says(at = "Promise 26", words = "UNKNOWN: also both are one;")
    static void pairOfOneOrNobody(Check c) {
        OpenEyes x = people(4);
        for (int k = 0; k < 4; k++) c.due("both are " + k, x.pair(k, k, 1), UNKNOWN);
        refused(c, "pair, the one:", UNKNOWN, v -> x.pair(v, 0, 1), 4, 8, -1, LOW, HIGH);
        refused(c, "pair, the other:", UNKNOWN, v -> x.pair(0, v, 1), 4, 8, -1, LOW, HIGH);
        refused(c, "pair, both:", UNKNOWN, v -> x.pair(v, v, 1), 4, 8, -1, LOW, HIGH);
        c.due("one person has no pair", people(1).pair(0, 1, 0), UNKNOWN);
    }

    @Says(at = "Promise 26", words = "OUTSIDE.")
    static void pairsOfNoKind(Check c) {
        span(c, "pair how", 0, 2, OUTSIDE, v -> new OpenEyes().pair(0, 3, v));
    }

    @Says(at = "Promise 27", words = "JUDGED: the PERSON (what = 0), what (1);")
    static void judgedPersonAndWhat(Check c) {
        OpenEyes x = stairOf(8, 2, 4);
        x.pair(6, 7, 2);
        judged(c, "person 6", x, "12345607", 6, 3);
        c.due("the pad stays", x.told(0), 8);
        c.due("and can be judged again", x.judge(0), 6);
    }

    @Says(at = "Promise 27", words = "NONE: it is GOOD.")
    static void judgedGood(Check c) {
        judged(c, "one on one", stairOf(1, 1, 1), "0", NONE, NONE);
        judged(c, "four", new OpenEyes(), "5432", NONE, NONE);
        judged(c, "eight on eight", stairOf(8, 2, 4), "76543210", NONE, NONE);
    }

    @Says(at = "Promise 27", words = "OUTSIDE;")
    static void judgedOfNoKind(Check c) {
        OpenEyes x = stairOf(1, 1, 1);
        write(x, "0");
        span(c, "judge", 0, 1, OUTSIDE, x::judge);
    }

    @Says(at = "Promise 27", words = "NO: there is a FAULT (1).")
    static void judgedWithAFault(Check c) {
        OpenEyes x = stairOf(3, 2, 2);
        for (String text : new String[] {"", "01", "0123", "001", "014", "01x", "ooo"}) {
            judged(c, "a fault", x, text, NO, NO);
            c.due("its signs stay", x.told(0), text.length());
        }
        judged(c, "fewer places than people", stairOf(3, 1, 2), "01", NO, NO);
        OpenEyes y = stairOf(3, 2, 2);
        write(y, "312");
        y.stair(1, 3);
        c.due("a place that there is no longer", y.judge(0), NO);
        write(y, "osh");
        c.due("no fault as a shot", y.fault(0), NONE);
        c.due("but one as a standing", y.judge(0), NO);
    }

    @Says(at = "Promise 28", words = "PLACED: how many (i = -1), the PLACE of PERSON i;")
    static void howManyAndPlaces(Check c) {
        placedAre(c, "a new object", new OpenEyes(), 360, 0, 1, 2, 3);
        placedAre(c, "one on one", stairOf(1, 1, 1), 1, 0);
        placedAre(c, "eight on eight", stairOf(8, 2, 4), 40320, 0, 1, 2, 3, 4, 5, 6, 7);
        placedAre(c, "one on eight", stairOf(1, 2, 4), 8, 0);
        OpenEyes x = stairOf(8, 2, 4);
        for (int k = 0; k < 7; k++) x.pair(k, k + 1, 2);
        placedAre(c, "a chain of eight", x, 28, 0, 1, 2, 3, 7, 6, 5, 4);
        OpenEyes none = taller(2, 1, 0);
        none.tall(-1, 0);
        c.due("none is good", none.placed(-1), 0);
    }

    @Says(at = "Promise 28", words = "PLACED: how many (i = -1), the PLACE of PERSON i;")
    static void placedAfterEachChange(Check c) {
        OpenEyes x = stairOf(2, 2, 1);
        placedAre(c, "at first", x, 2, 0, 1);
        x.tall(0, 180);
        placedAre(c, "after tall", x, 1, 1, 0);
        x.image(0);
        x.tall(-1, 11);
        placedAre(c, "after rise", x, 2, 0, 1);
        x.pair(0, 1, 1);
        c.due("after pair", x.placed(-1), 0);
        x.stair(1, 3);
        placedAre(c, "after stair", x, 2, 0, 2);
        x.restore(0);
        placedAre(c, "after restore", x, 1, 1, 0);
        x.people(2);
        placedAre(c, "after people", x, 2, 0, 1);
        OpenEyes y = stairOf(3, 2, 4);
        placedAre(c, "three on eight", y, 336, 0, 1, 2);
        y.stair(2, 2);
        placedAre(c, "on a smaller stair", y, 24, 0, 1, 2);
        y.people(2);
        placedAre(c, "of fewer people", y, 12, 0, 1);
    }

    @Says(at = "Promise 28", words = "NONE.")
    static void noPlace(Check c) {
        OpenEyes x = stairOf(2, 1, 2);
        refused(c, "no such person:", NONE, x::placed, 2, 7, 8, -2, LOW, HIGH);
        x.pair(0, 1, 1);
        c.due("none is good, person 0", x.placed(0), NONE);
        c.due("none is good, person 1", x.placed(1), NONE);
        refused(c, "none is good and no such person:", NONE, x::placed, 2, 7, 8, -2, LOW, HIGH);
    }

    @Says(at = "Promise 28", words = "STATE: there are more PEOPLE than PLACES.")
    static void morePeopleThanPlaces(Check c) {
        for (int[] s : STAIRS) {
            for (int n = 1; n <= 8; n++) {
                boolean more = n > s[0] * s[1];
                OpenEyes x = stairOf(n, s[0], s[1]);
                c.holds(n + " on " + s[0] + " by " + s[1], (x.placed(-1) == STATE) == more);
                c.holds("the last of " + n + " on " + s[0] + " by " + s[1], (x.placed(n - 1) == STATE) == more);
            }
        }
        refused(c, "whoever it is:", STATE, v -> stairOf(2, 1, 1).placed(v), -1, 0, 1, 2, 8, -2, LOW, HIGH);
    }

    @Says(at = "Promise 29", words = "All but the PAD is kept in an IMAGE (0, 1): 1.")
    static void keptInImages(Check c) {
        OpenEyes x = with("os");
        c.due("image 0", x.image(0), 1);
        x.people(8);
        c.due("image 1", x.image(1), 1);
        x.people(3);
        c.due("image 0 again", x.restore(0), 1);
        c.due("its people", x.told(1), 2);
        c.due("its shots", x.told(2), 1);
        x.restore(1);
        c.due("the other one's people", x.told(1), 8);
        c.due("over the one of before", x.image(0), 1);
        x.people(5);
        x.restore(0);
        c.due("the later one holds", x.told(1), 8);
    }

    @Says(at = "Promise 29", words = "All but the PAD is kept in an IMAGE (0, 1): 1.")
    static void thePadIsNotKept(Check c) {
        OpenEyes x = people(3);
        write(x, "osh");
        x.image(0);
        c.due("it stays", x.told(0), 3);
        write(x, "oo");
        x.restore(0);
        c.due("it is not given back", x.told(0), 2);
        c.due("as it was said", x.fault(0), 2);
        x.wipe();
        x.restore(0);
        c.due("nor where it is empty", x.told(0), 0);
    }

    @Says(at = "Promise 29", words = "OUTSIDE.")
    static void imagesThatThereAreNot(Check c) {
        span(c, "image", 0, 1, OUTSIDE, v -> new OpenEyes().image(v));
    }

    @Says(at = "Promise 30", words = "It is as it was when it was kept: 1.")
    static void allIsAsItWasKept(Check c) {
        OpenEyes x = with("osssssss", "soosssss", "ssssosss", "sssssoss", "ssssssos", "ssssssso", "sssossss", "tttttttt",
            "hhhhhhhh", "sthsthst");
        x.bride(7);
        x.hands(64);
        x.flash(12);
        x.bad(-1, 3);
        x.stair(2, 4);
        x.tall(-1, 33);
        x.pair(6, 7, 1);
        for (int k = 0; k < 8; k++) settings(x, k, 40 + k, k, 50 + k, k % 5, 200 + k);
        x.image(1);
        x.people(8);
        for (int s = 0; s < 10; s++) {
            write(x, "oooooooo");
            x.shot();
        }
        x.flash(-1);
        x.bad(-1, 20);
        x.stair(1, 1);
        x.tall(-1, 0);
        c.due("restore", x.restore(1), 1);
        int[] told = {0, 8, 10, 7, 64, 12, 3, 2, 4, 33};
        for (int what = 0; what < told.length; what++) c.due("told " + what, x.told(what), told[what]);
        c.due("cover", x.cover(), 127);
        c.due("pair", x.pair(7, 6, 1), 1);
        for (int k = 0; k < 8; k++) {
            c.due("tall", x.told(10 + k), 200 + k);
            c.due("quarters", x.told(20 + k), k % 5);
            c.due("the last look", x.look(9, k), "sthsthst".charAt(k));
            c.due("phase", x.blink(k, 2, 0), 50 + k);
            c.due("shut", x.blink(k, 1, 0), k);
            c.due("period", x.blink(k, 0, 1), 40 + k);
        }
    }

    private static void settings(OpenEyes x, int person, int period, int shut, int phase, int quarters, int tall) {
        x.blink(person, 0, period);
        x.blink(person, 1, shut);
        x.blink(person, 2, phase);
        x.bad(person, quarters);
        x.tall(person, tall);
    }

    @Says(at = "Promise 30", words = "It is as it was when it was kept: 1.")
    static void anImageCanBeRestoredAgain(Check c) {
        OpenEyes x = with("os");
        x.pair(0, 1, 2);
        x.image(0);
        for (int round = 0; round < 3; round++) {
            write(x, "ss");
            c.due("a shot behind it", x.shot(), 1);
            x.tall(0, 1);
            x.bad(0, 4);
            x.blink(0, 2, 8);
            x.bride(0);
            x.hands(1);
            x.pair(0, 1, 1);
            c.due("restore", x.restore(0), 1);
            c.due("shots", x.told(2), 1);
            c.due("tall", x.told(10), 170);
            c.due("quarters", x.told(20), 1);
            c.due("bride", x.told(3), NONE);
            c.due("hands", x.told(4), 0);
            c.due("phase", x.blink(0, 2, 0), 0);
            c.due("pair", x.pair(0, 1, 0), 2);
        }
    }

    @Says(at = "Promise 30", words = "OUTSIDE;")
    static void restoreOfNoImage(Check c) {
        OpenEyes x = new OpenEyes();
        x.image(0);
        x.image(1);
        span(c, "restore", 0, 1, OUTSIDE, x::restore);
    }

    @Says(at = "Promise 30", words = "STATE: it was not.")
    static void restoreOfWhatWasNotKept(Check c) {
        OpenEyes x = new OpenEyes();
        c.due("0", x.restore(0), STATE);
        c.due("1", x.restore(1), STATE);
        x.image(1);
        c.due("still not 0", x.restore(0), STATE);
        c.due("but 1", x.restore(1), 1);
        x.image(0);
        c.due("now 0", x.restore(0), 1);
    }

    @Says(at = "Promise 31", words = "0 signs, 1 PEOPLE, 2 SHOTS, 3 THE BRIDE (NONE), 4 HOLD HANDS, 5 FLASH, 6 TIRED, 7 ROWS,"
        + " 8 COLUMNS, 9 RISE,")
    static void toldOfAll(Check c) {
        OpenEyes x = new OpenEyes();
        int[] first = {0, 4, 0, NONE, 0, -1, 20, 2, 3, 10};
        for (int what = 0; what < 10; what++) c.due("at first, " + what, x.told(what), first[what]);
        x = with("osh", "too");
        x.say('o');
        x.bride(0);
        x.hands(3);
        x.flash(999);
        x.bad(-1, 0);
        x.stair(1, 4);
        x.tall(-1, 0);
        int[] then = {1, 3, 2, 0, 3, 999, 0, 1, 4, 0};
        for (int what = 0; what < 10; what++) c.due("then, " + what, x.told(what), then[what]);
    }

    @Says(at = "Promise 31", words = "10 on TALL of PEOPLE, 20 on quarters.")
    static void toldOfPeople(Check c) {
        OpenEyes x = people(8);
        for (int k = 0; k < 8; k++) {
            x.tall(k, 240 + k);
            x.bad(k, (k + 3) % 5);
        }
        for (int k = 0; k < 8; k++) {
            c.due("tall of " + k, x.told(10 + k), 240 + k);
            c.due("quarters of " + k, x.told(20 + k), (k + 3) % 5);
        }
    }

    @Says(at = "Promise 31", words = "OUTSIDE (also of PEOPLE that there are not).")
    static void toldOfPeopleThereAreNot(Check c) {
        for (int n = 1; n <= 8; n++) {
            OpenEyes x = people(n);
            for (int k = 0; k < 10; k++) {
                c.due("tall of " + k + " of " + n, x.told(10 + k), k < n ? 170 : OUTSIDE);
                c.due("quarters of " + k + " of " + n, x.told(20 + k), k < n ? 1 : OUTSIDE);
            }
            refused(c, "told", OUTSIDE, x::told, -1, -10, 30, 31, LOW, LOW + 10, LOW + 20, HIGH, 65536);
        }
    }
}
