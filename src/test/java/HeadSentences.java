/** The sentences of section 2 and of promises 9 to 14: singles, covers, spoilers, heads. */
final class HeadSentences extends Eyes {
    @Says(at = "2", words = "SINGLE: the SHOT in which the fewest are BAD;")
    static void fewestBad(Check c) {
        c.due("one bad, behind", with("ssso", "oost", "tooo").single(0), 2);
        c.due("one bad, ahead", with("tooo", "ssso", "oost").single(0), 0);
        c.due("none bad", with("tooo", "osoo", "oooo").single(0), 2);
        c.due("person 7", with("ooooooos", "oooooooo").single(0), 1);
        String many = "ssssssss";
        OpenEyes x = with(many, many, many, many, many, many, many, many, many, "ttttttto");
        c.due("the tenth of eight people", x.single(0), 9);
        c.due("seven are bad in it", x.single(1), 7);
    }

    @Says(at = "2", words = "of these the one with fewest who are hidden;")
    static void fewestHidden(Check c) {
        c.due("shut beside hidden", with("hooo", "sooo").single(0), 1);
        c.due("turned away beside hidden", with("ohho", "ohto").single(0), 1);
        c.due("all hidden but one", with("hhhhhhhh", "hhhhhhhs").single(0), 1);
        c.due("hidden in another one", with("osoooooo", "hooooooo", "oosooooo").single(0), 0);
        c.due("fewest bad come first", with("hhoo", "ssso").single(0), 0);
        c.due("even eight hidden below", with("ssssssss", "hhhhhhho").single(0), 1);
    }

    @Says(at = "2", words = "the first. If there is a BRIDE")
    static void firstOfLikeSingles(Check c) {
        c.due("shut and turned away are alike", with("sooo", "otoo", "ooso").single(0), 0);
        c.due("behind a worse one", with("hooo", "osoo", "ooto").single(0), 1);
        c.due("all the same", with("oo", "oo", "oo").single(0), 0);
    }

    @Says(at = "2", words = "If there is a BRIDE, only of those in which she is open.")
    static void singleWithTheBride(Check c) {
        OpenEyes x = with("sooo", "tooo", "hooo", "osss", "ossh", "ooss");
        x.bride(0);
        c.due("the best with her", x.single(0), 5);
        c.due("bad in it", x.single(1), 2);
        x.bride(3);
        c.due("with another bride", x.single(0), 0);
        x.bride(-1);
        c.due("without a bride", x.single(0), 0);
        OpenEyes y = with("ooooooos", "ssssssso");
        y.bride(7);
        c.due("person 7", y.single(0), 1);
    }

    @Says(at = "2", words = "NONE: no such SHOT.")
    static void noSingle(Check c) {
        c.due("no shots", new OpenEyes().single(0), NONE);
        OpenEyes x = with("sooo", "tooo", "hooo");
        x.bride(0);
        c.due("the bride is never open", x.single(0), NONE);
        x.bride(1);
        c.due("another one is", x.single(0), 0);
    }

    @Says(at = "2", words = "COVER: the fewest SHOTS so that each is open in one of them at least,")
    static void fewestShotsOfACover(Check c) {
        c.due("one of all", with("oss", "sos", "sso", "ooo").cover(), 8);
        c.due("two", with("oss", "sos", "oos", "sso").cover(), 12);
        c.due("eight of ten", with("ssssssss", "tttttttt", "osssssss", "sossssss", "ssosssss", "sssossss", "ssssosss",
            "sssssoss", "ssssssos", "ssssssso").cover(), 1020);
        c.due("one person", with("s", "o").cover(), 2);
        c.due("somebody is open in both", with("oos", "soo").cover(), 3);
        c.due("the tenth shot", with("so", "so", "so", "so", "so", "so", "so", "so", "so", "os").cover(), 513);
    }

    @Says(at = "2", words = "of several the least as bits.")
    static void leastCoverAsBits(Check c) {
        // Shots 0 and 3 do, and 1 and 2: 9 and 6.
        c.due("not the one with the first shot", with("ooss", "osos", "soso", "ssoo").cover(), 6);
        c.due("the first of singles", with("so", "oo", "oo").cover(), 2);
        c.due("not the last of pairs", with("oss", "soo", "oss", "soo").cover(), 3);
    }

    @Says(at = "2", words = "SPOILS: who is BAD in most SHOTS,")
    static void badInMostShots(Check c) {
        c.due("person 1", with("osss", "osoo", "ooos").spoils(0), 1);
        c.due("shut, turned away and hidden alike", with("sh", "os", "ot", "so").spoils(0), 1);
        c.due("person 7", with("ooooooos").spoils(0), 7);
        c.due("ten times", with("os", "ot", "oh", "os", "os", "os", "os", "os", "os", "ss").spoils(1), 10);
    }

    @Says(at = "2", words = "the first. HEADS")
    static void firstOfLikeSpoilers(Check c) {
        c.due("both once", with("so", "os").spoils(0), 0);
        c.due("two behind the first", with("oss", "ost").spoils(0), 1);
        c.due("all", with("ssssssss").spoils(0), 0);
    }

    @Says(at = "2", words = "HEADS: for each PERSON a SHOT from which the head is taken, in which it is open.")
    static void headsAreOpen(Check c) {
        headsAre(c, "each from its own", with("soss", "osss", "ssso", "ssos"), 3, 1, 0, 3, 2);
        headsAre(c, "one person", with("s", "t", "h", "o"), 0, 3);
        headsAre(c, "somebody is never open", with("oooh", "ooos", "ooot"), NONE, NONE, NONE, NONE, NONE);
        headsAre(c, "eight people", with("oooooooh", "ssssssso"), 1, 0, 0, 0, 0, 0, 0, 0, 1);
    }

    @Says(at = "2", words = "A CUT is between two neighbours (PERSON k and k and 1) whose heads are from unlike SHOTS.")
    static void cutsBetweenNeighbours(Check c) {
        headsAre(c, "no cut", with("oooo"), 0);
        headsAre(c, "one cut", with("ooos", "ssso"), 1);
        headsAre(c, "from one shot to another one and back", with("osso", "soos"), 2, 0, 1, 1, 0);
        headsAre(c, "seven cuts", with("osososos", "sosososo"), 7, 0, 1, 0, 1, 0, 1, 0, 1);
        headsAre(c, "none for one person", with("o"), 0, 0);
        headsAre(c, "none behind the last", with("os", "so"), 1, 0, 1);
    }

    @Says(at = "2", words = "Neighbours who HOLD HANDS (bits: k and k and 1; none at first) must be from the same one.")
    static void handsAreFromOneShot(Check c) {
        OpenEyes x = with("ooss", "ssoo", "sooo");
        c.due("none at first", x.told(4), 0);
        headsAre(c, "no hands", x, 1, 0, 0, 1, 1);
        x.hands(1);
        headsAre(c, "0 and 1", x, 1, 0, 0, 1, 1);
        x.hands(2);
        headsAre(c, "1 and 2", x, 1, 0, 2, 2, 2);
        x.hands(4);
        headsAre(c, "2 and 3", x, 1, 0, 0, 1, 1);
        x.hands(3);
        headsAre(c, "0, 1 and 2", x, NONE, NONE, NONE, NONE, NONE);
        x.hands(7);
        headsAre(c, "all", x, NONE, NONE, NONE, NONE, NONE);
    }

    @Says(at = "2", words = "Neighbours who HOLD HANDS (bits: k and k and 1; none at first) must be from the same one.")
    static void handsCanCostCuts(Check c) {
        OpenEyes x = with("oosss", "sssoo", "ssooo", "sooss");
        headsAre(c, "no hands", x, 1, 0, 0, 2, 2, 2);
        x.hands(2);
        headsAre(c, "1 and 2", x, 2, 0, 3, 3, 1, 1);
        OpenEyes y = with("ooooooos", "ssssssoo");
        y.hands(64);
        headsAre(c, "6 and 7", y, 1, 0, 0, 0, 0, 0, 0, 1, 1);
    }

    @Says(at = "2", words = "HEADS with the fewest CUTS;")
    static void fewestCuts(Check c) {
        headsAre(c, "not the first shot that is open", with("osss", "sooo", "ooos", "oooo"), 0, 3, 3, 3, 3);
        headsAre(c, "a later shot that lasts longer", with("osss", "ooss", "sooo"), 1, 0, 2, 2, 2);
        headsAre(c, "not the first one for person 0", with("osoo", "ooos", "ssso"), 1, 1, 1, 0, 0);
        headsAre(c, "several ways of three cuts", with("osssso", "soooss", "sosoos", "osssos"), 3, 0, 1, 1, 1, 2, 0);
    }

    @Says(at = "2", words = "the first (PERSON 0's SHOT first).")
    static void firstHeads(Check c) {
        headsAre(c, "the same everywhere", with("ooo", "ooo"), 0, 0, 0, 0);
        headsAre(c, "the second as small as can be", with("soo", "oos", "oso"), 1, 1, 0, 0);
        headsAre(c, "behind it as small as can be", with("oss", "soo", "soo"), 1, 0, 1, 1);
        headsAre(c, "a cut as late as that is small", with("ooos", "ssoo"), 1, 0, 0, 0, 1);
        headsAre(c, "a cut as soon as that is small", with("ssoo", "ooos"), 1, 1, 1, 0, 0);
    }

    @Says(at = "2", words = "LEFT: if there are none: the fewest PEOPLE who are BAD (their heads are from any SHOT),")
    static void fewestLeft(Check c) {
        c.due("one", with("oooh", "ooos").left(), 1);
        c.due("all", with("ssssssss", "tttttttt", "hhhhhhhh").left(), 8);
        c.due("two of four", with("osso", "otho").left(), 2);
        c.due("one person", with("s").left(), 1);
        OpenEyes x = with("oss", "ssh", "sot");
        c.due("heads of several shots", x.left(), 1);
        x.bride(2);
        c.due("the bride is nothing else here", x.left(), 1);
    }

    @Says(at = "2", words = "hands being held, CUTS not counted;")
    static void leftWithHands(Check c) {
        OpenEyes x = with("osso", "soos");
        x.hands(5);
        c.due("two chains of two", x.left(), 2);
        x.hands(2);
        c.due("1 and 2 are from one shot, so there are heads", x.left(), 0);
        x.hands(1);
        c.due("0 and 1", x.left(), 1);
        x.hands(7);
        c.due("all from one shot", x.left(), 2);
        OpenEyes y = with("ooooooos", "ssssssso", "sssssoss");
        y.hands(127);
        c.due("a chain of eight", y.left(), 1);
        y.hands(96);
        c.due("a chain of the last three", y.left(), 1);
        c.due("cuts are not counted", with("ososs", "sosos").left(), 1);
    }

    @Says(at = "2", words = "else 0.")
    static void nobodyIsLeft(Check c) {
        c.due("one shot of all", with("oooo").left(), 0);
        c.due("seven cuts", with("osososos", "sosososo").left(), 0);
    }

    @Says(at = "Promise 9", words = "SINGLE: the SHOT (what = 0), how many are BAD in it (1);")
    static void singleAndItsBad(Check c) {
        OpenEyes x = with("ssss", "stho", "otho");
        c.due("the shot", x.single(0), 2);
        c.due("bad in it", x.single(1), 2);
        c.due("eight", with("hhhhhhhh").single(1), 8);
        c.due("none", with("s", "o").single(1), 0);
    }

    @Says(at = "Promise 9", words = "NONE.")
    static void singleOfNoShots(Check c) {
        c.due("the shot", new OpenEyes().single(0), NONE);
        c.due("how many", new OpenEyes().single(1), NONE);
        OpenEyes x = with("so");
        x.bride(0);
        c.due("without the bride", x.single(0), NONE);
        c.due("how many without her", x.single(1), NONE);
    }

    @Says(at = "Promise 9", words = "OUTSIDE.")
    static void singleOfNoKind(Check c) {
        span(c, "single", 0, 1, OUTSIDE, v -> with("os").single(v));
        refused(c, "single, no shots:", OUTSIDE, v -> new OpenEyes().single(v), -1, 2, LOW, HIGH);
    }

    @Says(at = "Promise 10", words = "COVER, as bits;")
    static void coverAsBits(Check c) {
        c.due("shot 0 is bit 0", with("o").cover(), 1);
        c.due("shots 0 and 2", with("os", "os", "so").cover(), 5);
        OpenEyes x = with("s", "s", "s", "s", "s", "s", "s", "s", "s", "o");
        c.due("shot 9 is bit 9", x.cover(), 512);
    }

    @Says(at = "Promise 10", words = "NONE: somebody is never open.")
    static void noCover(Check c) {
        c.due("no shots", new OpenEyes().cover(), NONE);
        c.due("one person", with("s", "t", "h").cover(), NONE);
        c.due("the last of eight", with("ooooooos", "oooooooh").cover(), NONE);
        c.due("the first of eight", with("sooooooo", "tooooooo").cover(), NONE);
    }

    @Says(at = "Promise 11", words = "SPOILS: who (what = 0; NONE: nobody is ever BAD),")
    static void nobodySpoils(Check c) {
        c.due("no shots", new OpenEyes().spoils(0), NONE);
        c.due("all open", with("oooo", "oooo").spoils(0), NONE);
        c.due("once bad", with("oooo", "ooot").spoils(0), 3);
    }

    @Says(at = "Promise 11", words = "in how many (1).")
    static void spoilsInHowMany(Check c) {
        c.due("in one", with("oooo", "ooot").spoils(1), 1);
        c.due("in all", with("hs", "so").spoils(1), 2);
        c.due("in none", with("oo", "oo").spoils(1), 0);
        c.due("no shots", new OpenEyes().spoils(1), 0);
    }

    @Says(at = "Promise 11", words = "OUTSIDE.")
    static void spoilsOfNoKind(Check c) {
        span(c, "spoils", 0, 1, OUTSIDE, v -> with("os").spoils(v));
        refused(c, "spoils, no shots:", OUTSIDE, v -> new OpenEyes().spoils(v), -1, 2, LOW, HIGH);
    }

    @Says(at = "Promise 12", words = "HOLD HANDS, as bits: which they were.")
    static void whichHandsThereWere(Check c) {
        OpenEyes x = people(8);
        c.due("none at first", x.hands(127), 0);
        c.due("all", x.hands(64), 127);
        c.due("the last two", x.hands(0), 64);
        c.due("none", x.hands(0), 0);
    }

    @Says(at = "Promise 12", words = "OUTSIDE.")
    static void handsOfNobody(Check c) {
        for (int n = 1; n <= 8; n++) {
            int people = n;
            span(c, "hands of " + n, 0, (1 << (n - 1)) - 1, OUTSIDE, v -> people(people).hands(v));
        }
    }

    @Says(at = "Promise 13", words = "HEADS: CUTS (i = -1), the SHOT of PERSON i;")
    static void cutsAndShotsOfHeads(Check c) {
        OpenEyes x = with("sos", "oss", "oso");
        headsAre(c, "three people", x, 2, 1, 0, 2);
        c.due("the last again", x.heads(2), 2);
        c.due("the first again", x.heads(0), 1);
    }

    @Says(at = "Promise 13", words = "NONE.")
    static void noHeads(Check c) {
        for (int i : new int[] {-1, 0, 3}) {
            c.due("no shots, " + i, new OpenEyes().heads(i), NONE);
            c.due("somebody is never open, " + i, with("ooos", "oooh").heads(i), NONE);
            OpenEyes x = with("osoo", "sooo");
            x.hands(1);
            c.due("hands forbid it, " + i, x.heads(i), NONE);
        }
    }

    @Says(at = "Promise 13", words = "NONE.")
    static void headsOfNoPerson(Check c) {
        for (int i : new int[] {-2, 2, 7, 8, 9, LOW, HIGH}) {
            c.due("there are heads, " + i, with("oo", "ss").heads(i), NONE);
            c.due("no shots, " + i, people(2).heads(i), NONE);
        }
    }

    @Says(at = "Promise 14", words = "LEFT;")
    static void howManyAreLeft(Check c) {
        c.due("none", with("os", "so").left(), 0);
        c.due("one", with("os", "ot").left(), 1);
    }

    @Says(at = "Promise 14", words = "NONE: there are no SHOTS.")
    static void leftOfNoShots(Check c) {
        c.due("a new object", new OpenEyes().left(), NONE);
        OpenEyes x = with("s");
        c.due("a shot", x.left(), 1);
        x.people(1);
        c.due("it went", x.left(), NONE);
    }
}
