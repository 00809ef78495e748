/** The sentences of section 1 and of promises 1 to 8: people, the bride, the pad, shots. */
final class ShotSentences extends Eyes {
    private static final String TEN_O = "oooooooooo";

    @Says(at = "1", words = "PEOPLE 0 to n less 1")
    static void peopleAreNumberedFrom0On(Check c) {
        for (int n = 1; n <= 8; n++) {
            OpenEyes x = people(n);
            for (int k = 0; k < n; k++) c.due("tall of " + k, x.tall(k, 170), 170);
            c.due("tall of n, " + n, x.tall(n, 170), UNKNOWN);
            c.due("the bride n, " + n, x.bride(n), UNKNOWN);
            c.due("the bride n less 1, " + n, x.bride(n - 1), NONE);
            c.due("told of n less 1", x.told(10 + n - 1), 170);
            c.due("told of n", x.told(10 + n), OUTSIDE);
        }
    }

    @Says(at = "1", words = "(n 1 to 8;")
    static void oneToEightPeople(Check c) {
        span(c, "people", 1, 8, OUTSIDE, v -> new OpenEyes().people(v));
    }

    @Says(at = "1", words = "4 at first).")
    static void fourAtFirst(Check c) {
        OpenEyes x = new OpenEyes();
        c.due("told", x.told(1), 4);
        c.due("person 3", x.bad(3, 1), 1);
        c.due("person 4", x.bad(4, 1), UNKNOWN);
    }

    @Says(at = "1", words = "A SHOT is a text on a PAD of up to 40 signs")
    static void fortySignsOnThePad(Check c) {
        OpenEyes x = new OpenEyes();
        c.due("none at first", x.told(0), 0);
        for (int i = 1; i <= 40; i++) c.due("sign " + i, x.say('o'), i);
        c.due("sign 41", x.say('o'), FULL);
        c.due("signs", x.told(0), 40);
    }

    @Says(at = "1", words = "(codes 33 to 126):")
    static void codesOfSigns(Check c) {
        span(c, "sign", 33, 126, OUTSIDE, v -> new OpenEyes().say(v));
        for (int code = 33; code <= 126; code++) c.due("code " + code, new OpenEyes().say(code), 1);
    }

    @Says(at = "1", words = "n LOOKS: o (open), s (shut), t (turned away), h (hidden), one for each.")
    static void fourLooksAndNoOtherSign(Check c) {
        for (int code = 33; code <= 126; code++) {
            OpenEyes x = people(1);
            x.say(code);
            boolean look = code == 111 || code == 115 || code == 116 || code == 104;
            c.due("a shot of code " + code, x.shot(), look ? 0 : NO);
        }
    }

    @Says(at = "1", words = "n LOOKS: o (open), s (shut), t (turned away), h (hidden), one for each.")
    static void asManyLooksAsPeople(Check c) {
        for (int n = 1; n <= 8; n++) {
            for (int signs = 0; signs <= 10; signs++) {
                OpenEyes x = people(n);
                write(x, TEN_O.substring(0, signs));
                c.due(signs + " looks of " + n + " people", x.shot(), signs == n ? 0 : NO);
            }
        }
    }

    @Says(at = "1", words = "SHOTS are numbered from 0 on as they are taken, 10 at most.")
    static void tenShotsAtMost(Check c) {
        OpenEyes x = people(1);
        for (int s = 0; s < 10; s++) {
            write(x, s % 2 == 0 ? "s" : "o");
            c.due("shot " + s, x.shot(), s);
        }
        for (int s = 0; s < 10; s++) c.due("look at " + s, x.look(s, 0), s % 2 == 0 ? 's' : 'o');
        write(x, "h");
        c.due("an eleventh", x.shot(), FULL);
        c.due("look at an eleventh", x.look(10, 0), UNKNOWN);
        c.due("shots", x.told(2), 10);
    }

    @Says(at = "1", words = "Whoever is not open is BAD in a SHOT.")
    static void allButOpenAreBad(Check c) {
        c.due("open", with("oooo").single(1), 0);
        c.due("shut", with("ooos").single(1), 1);
        c.due("turned away", with("otoo").single(1), 1);
        c.due("hidden", with("hooo").single(1), 1);
        c.due("all eight", with("sthsthst").single(1), 8);
    }

    @Says(at = "1", words = "THE FAULT: the place (from 0 on) of the first sign that can not stand there,")
    static void firstSignThatCanNotStand(Check c) {
        OpenEyes x = new OpenEyes();
        faults(c, x, 0, "xooo", 0);
        faults(c, x, 0, "ooxo", 2);
        faults(c, x, 0, "ooox", 3);
        faults(c, x, 0, "oxox", 1);
        faults(c, x, 0, "Osth", 0);
        faults(c, x, 0, "x", 0);
        faults(c, x, 0, "oooxx", 3);
    }

    @Says(at = "1", words = "THE FAULT: the place (from 0 on) of the first sign that can not stand there,")
    static void aSignTooMuchCanNotStand(Check c) {
        for (int n = 1; n <= 8; n++) {
            OpenEyes x = stairOf(n, 2, 4);
            faults(c, x, 0, TEN_O.substring(0, n + 1), n);
            faults(c, x, 0, TEN_O.substring(0, n + 2), n);
            faults(c, x, 1, "012345670".substring(0, n) + "7", n);
            faults(c, x, 1, "012345670".substring(0, n) + "x", n);
        }
        OpenEyes x = new OpenEyes();
        faults(c, x, 0, "ooooox", 4);
        faults(c, x, 1, "01234x", 4);
        faults(c, x, 1, "012340", 4);
        x.wipe();
        for (int i = 0; i < 40; i++) x.say('o');
        c.due("of forty signs", x.fault(0), 4);
    }

    @Says(at = "1", words = "or the number of signs, if more must come.")
    static void moreSignsMustCome(Check c) {
        for (int n = 1; n <= 8; n++) {
            OpenEyes x = stairOf(n, 2, 4);
            for (int signs = 0; signs < n; signs++) {
                faults(c, x, 0, TEN_O.substring(0, signs), signs);
                faults(c, x, 1, "76543210".substring(0, signs), signs);
            }
        }
    }

    @Says(at = "1", words = "THE BRIDE is one of the PEOPLE, or none (none at first).")
    static void brideIsOneOrNone(Check c) {
        OpenEyes x = new OpenEyes();
        c.due("told at first", x.told(3), NONE);
        c.due("who it was at first", x.bride(3), NONE);
        c.due("one of them", x.told(3), 3);
        c.due("none again", x.bride(-1), 3);
        c.due("told none", x.told(3), NONE);
    }

    @Says(at = "Promise 1", words = "Four PEOPLE, no SHOTS.")
    static void aNewObject(Check c) {
        OpenEyes x = new OpenEyes();
        c.due("people", x.told(1), 4);
        c.due("shots", x.told(2), 0);
        c.due("signs", x.told(0), 0);
        c.due("look", x.look(0, 0), UNKNOWN);
        c.due("single", x.single(0), NONE);
        c.due("cover", x.cover(), NONE);
        c.due("spoils", x.spoils(0), NONE);
        c.due("heads", x.heads(-1), NONE);
        c.due("left", x.left(), NONE);
        c.due("which it was", x.people(1), 4);
    }

    @Says(at = "Promise 2", words = "How many PEOPLE there are: which it was.")
    static void howManyPeople(Check c) {
        OpenEyes x = new OpenEyes();
        int was = 4;
        for (int n : new int[] {8, 1, 1, 8, 5, 2}) {
            c.due("people " + n, x.people(n), was);
            c.due("told", x.told(1), n);
            was = n;
        }
    }

    @Says(at = "Promise 2", words = "SHOTS go,")
    static void shotsGo(Check c) {
        OpenEyes x = with("oooo", "osss", "oooo", "ssss", "sooo", "oooo", "oooo", "oooo", "oooo", "oooo");
        x.people(4);
        c.due("shots", x.told(2), 0);
        c.due("look", x.look(0, 0), UNKNOWN);
        c.due("single", x.single(0), NONE);
        c.due("cover", x.cover(), NONE);
        c.due("heads", x.heads(0), NONE);
        c.due("left", x.left(), NONE);
        write(x, "ttts");
        c.due("they are numbered from 0 on again", x.shot(), 0);
        c.due("nobody is open", x.single(1), 4);
        c.due("of the new one alone", x.look(0, 3), 's');
    }

    @Says(at = "Promise 2", words = "all else told of PEOPLE is as at first;")
    static void allElseOfPeopleIsAsAtFirst(Check c) {
        for (int after = 1; after <= 8; after++) {
            OpenEyes x = people(8);
            x.hands(127);
            for (int k = 0; k < 8; k++) {
                x.blink(k, 0, 40);
                x.blink(k, 1, 9);
                x.blink(k, 2, 50);
                x.bad(k, 3);
                x.tall(k, 99);
                for (int j = 0; j < k; j++) x.pair(j, k, 1 + (j + k) % 2);
            }
            x.people(after);
            c.due("hands", x.told(4), 0);
            for (int k = 0; k < after; k++) {
                c.due("period", x.blink(k, 0, 30), 30);
                c.due("shut", x.blink(k, 1, 2), 2);
                c.due("phase", x.blink(k, 2, 0), 0);
                c.due("quarters", x.told(20 + k), 1);
                c.due("tall", x.told(10 + k), 170);
                for (int j = 0; j < k; j++) c.due("pair " + j + " " + k, x.pair(j, k, 0), 0);
            }
        }
    }

    @Says(at = "Promise 2", words = "all else told of PEOPLE is as at first;")
    static void peopleWhoWentComeBackAsAtFirst(Check c) {
        OpenEyes x = people(8);
        x.tall(7, 5);
        x.bad(7, 4);
        x.blink(7, 2, 33);
        x.pair(6, 7, 2);
        x.people(1);
        x.people(8);
        c.due("tall", x.told(17), 170);
        c.due("quarters", x.told(27), 1);
        c.due("phase", x.blink(7, 2, 0), 0);
        c.due("pair", x.pair(7, 6, 0), 0);
    }

    @Says(at = "Promise 2", words = "all else told of PEOPLE is as at first;")
    static void whatIsNotOfPeopleStays(Check c) {
        OpenEyes x = new OpenEyes();
        x.flash(9);
        x.bad(-1, 3);
        x.stair(3, 1);
        x.tall(-1, 44);
        x.image(1);
        write(x, "ab");
        x.people(2);
        c.due("signs", x.told(0), 2);
        c.due("the flash", x.told(5), 9);
        c.due("tired", x.told(6), 3);
        c.due("rows", x.told(7), 3);
        c.due("columns", x.told(8), 1);
        c.due("rise", x.told(9), 44);
        c.due("an image", x.restore(1), 1);
        c.due("its people", x.told(1), 4);
    }

    @Says(at = "Promise 2", words = "no BRIDE.")
    static void noBrideAmongNewPeople(Check c) {
        OpenEyes x = new OpenEyes();
        x.bride(0);
        x.people(4);
        c.due("told", x.told(3), NONE);
        c.due("who it was", x.bride(1), NONE);
    }

    @Says(at = "Promise 2", words = "OUTSIDE.")
    static void tooFewOrTooManyPeople(Check c) {
        OpenEyes x = with("osth");
        x.bride(2);
        refused(c, "people", OUTSIDE, x::people, 0, 9, -1, LOW, HIGH);
        c.due("people stay", x.told(1), 4);
        c.due("shots stay", x.told(2), 1);
        c.due("the bride stays", x.told(3), 2);
    }

    @Says(at = "Promise 3", words = "THE BRIDE (-1: none): who it was (NONE).")
    static void whoTheBrideWas(Check c) {
        OpenEyes x = people(8);
        c.due("none to none", x.bride(-1), NONE);
        c.due("none to 7", x.bride(7), NONE);
        c.due("7 to 7", x.bride(7), 7);
        c.due("7 to 0", x.bride(0), 7);
        c.due("0 to none", x.bride(-1), 0);
        c.due("none again", x.bride(-1), NONE);
    }

    @Says(at = "Promise 3", words = "UNKNOWN.")
    static void noSuchBride(Check c) {
        for (int n = 1; n <= 8; n++) {
            OpenEyes x = people(n);
            x.bride(n - 1);
            refused(c, "bride of " + n + ":", UNKNOWN, x::bride, n, 8, -2, NONE, LOW, HIGH);
            c.due("she stays", x.told(3), n - 1);
        }
    }

    @Says(at = "Promise 4", words = "A sign more: how many.")
    static void aSignMore(Check c) {
        OpenEyes x = new OpenEyes();
        c.due("the first", x.say('o'), 1);
        c.due("the second", x.say('!'), 2);
        x.wipe();
        c.due("the first behind a wipe", x.say('~'), 1);
        write(x, "osth");
        x.shot();
        c.due("the first behind a shot", x.say('o'), 1);
    }

    @Says(at = "Promise 4", words = "OUTSIDE;")
    static void signsThatThereAreNot(Check c) {
        OpenEyes x = new OpenEyes();
        refused(c, "say", OUTSIDE, x::say, 32, 127, 0, -1, -33, 256 + 'o', 65536 + 'o', LOW, HIGH);
        c.due("no sign came", x.told(0), 0);
    }

    @Says(at = "Promise 4", words = "FULL.")
    static void aFullPad(Check c) {
        OpenEyes x = people(1);
        for (int i = 0; i < 40; i++) x.say('o');
        c.due("the 41st", x.say('o'), FULL);
        c.due("and again", x.say('x'), FULL);
        c.due("forty stay", x.wipe(), 40);
        c.due("then there is room", x.say('o'), 1);
        c.due("and no fault is left", x.fault(0), NONE);
    }

    @Says(at = "Promise 5", words = "Signs go: how many there were.")
    static void signsGo(Check c) {
        OpenEyes x = people(1);
        c.due("an empty pad", x.wipe(), 0);
        x.say('o');
        c.due("one sign", x.wipe(), 1);
        c.due("it went", x.told(0), 0);
        c.due("more must come", x.fault(0), 0);
        c.due("an empty pad again", x.wipe(), 0);
        for (int i = 0; i < 40; i++) x.say('o');
        c.due("a full pad", x.wipe(), 40);
    }

    @Says(at = "Promise 6", words = "THE FAULT of the PAD as a SHOT (how = 0),")
    static void faultAsAShot(Check c) {
        OpenEyes x = people(3);
        faults(c, x, 0, "", 0);
        faults(c, x, 0, "os", 2);
        faults(c, x, 0, "o0h", 1);
        faults(c, x, 0, "012", 0);
        faults(c, x, 0, "osth", 3);
        faults(c, x, 0, "ooo", NONE);
        c.due("the pad stays", x.told(0), 3);
        x.people(4);
        c.due("by the people there are", x.fault(0), 3);
        x.people(2);
        c.due("by fewer people", x.fault(0), 2);
    }

    @Says(at = "Promise 6", words = "as a STANDING (1: n digits of PLACES there are,")
    static void digitsOfPlacesThereAre(Check c) {
        for (int code = 33; code <= 126; code++) {
            OpenEyes x = stairOf(1, 2, 3);
            x.say(code);
            c.due("the place of code " + code, x.fault(1), code >= '0' && code <= '5' ? NONE : 0);
        }
        int[][] stairs = {{1, 1}, {1, 2}, {3, 1}, {2, 2}, {3, 2}, {2, 4}};
        for (int[] s : stairs) {
            OpenEyes x = stairOf(1, s[0], s[1]);
            int places = s[0] * s[1];
            for (int p = 0; p <= 9; p++) faults(c, x, 1, "0123456789".substring(p, p + 1), p < places ? NONE : 0);
        }
    }

    @Says(at = "Promise 6", words = "as a STANDING (1: n digits of PLACES there are,")
    static void fewerPlacesThanPeople(Check c) {
        OpenEyes x = stairOf(3, 1, 2);
        faults(c, x, 1, "10", 2);
        faults(c, x, 1, "102", 2);
        faults(c, x, 1, "101", 2);
    }

    @Says(at = "Promise 6", words = "none twice);")
    static void noPlaceTwice(Check c) {
        OpenEyes x = stairOf(8, 2, 4);
        faults(c, x, 1, "00", 1);
        faults(c, x, 1, "01234560", 7);
        faults(c, x, 1, "01234566", 7);
        faults(c, x, 1, "76543217", 7);
        faults(c, x, 1, "0128", 3);
        faults(c, x, 1, "07123456", NONE);
        faults(c, x, 1, "0712", 4);
    }

    @Says(at = "Promise 6", words = "NONE.")
    static void noFault(Check c) {
        OpenEyes x = people(4);
        faults(c, x, 0, "osth", NONE);
        faults(c, x, 1, "5432", NONE);
        x.people(8);
        x.stair(2, 4);
        faults(c, x, 0, "hhhhhhhh", NONE);
        faults(c, x, 1, "76543210", NONE);
        x.people(1);
        x.stair(1, 1);
        faults(c, x, 0, "s", NONE);
        faults(c, x, 1, "0", NONE);
    }

    @Says(at = "Promise 6", words = "OUTSIDE: how.")
    static void faultOfNoKind(Check c) {
        span(c, "fault", 0, 1, OUTSIDE, v -> new OpenEyes().fault(v));
    }

    @Says(at = "Promise 7", words = "The PAD is a SHOT more (it is empty then): its number.")
    static void aShotMore(Check c) {
        OpenEyes x = people(2);
        write(x, "os");
        c.due("its number", x.shot(), 0);
        c.due("the pad is empty", x.told(0), 0);
        c.due("nothing to wipe", x.wipe(), 0);
        c.due("the same pad is no shot again", x.shot(), NO);
        write(x, "ht");
        c.due("the next number", x.shot(), 1);
        c.due("two", x.told(2), 2);
    }

    @Says(at = "Promise 7", words = "NO: there is a FAULT;")
    static void noShotWithAFault(Check c) {
        OpenEyes x = people(2);
        for (String text : new String[] {"", "o", "ox", "xo", "ooo", "01"}) {
            write(x, text);
            c.due("a shot of '" + text + "'", x.shot(), NO);
            c.due("its signs stay", x.told(0), text.length());
            c.due("no shot came", x.told(2), 0);
        }
    }

    @Says(at = "Promise 7", words = "FULL.")
    static void noEleventhShot(Check c) {
        OpenEyes x = with("o", "o", "o", "o", "o", "o", "o", "o", "o", "s");
        write(x, "t");
        c.due("an eleventh", x.shot(), FULL);
        c.due("its sign stays", x.told(0), 1);
        c.due("the last is as it was", x.look(9, 0), 's');
        x.people(1);
        c.due("the pad serves when shots are gone", x.shot(), 0);
        c.due("its look", x.look(0, 0), 't');
    }

    @Says(at = "Promise 8", words = "The LOOK of a PERSON in a SHOT (its code).")
    static void codesOfLooks(Check c) {
        OpenEyes x = with("osthosth", "tttttttt", "hhhhhhhs");
        for (int k = 0; k < 8; k++) {
            c.due("look " + k, x.look(0, k), new int[] {111, 115, 116, 104}[k % 4]);
            c.due("look of the last " + k, x.look(2, k), k == 7 ? 115 : 104);
        }
    }

    @Says(at = "Promise 8", words = "UNKNOWN.")
    static void noSuchShotOrPerson(Check c) {
        OpenEyes x = with("os", "ts", "hh");
        refused(c, "look at shot", UNKNOWN, v -> x.look(v, 0), 3, 9, 10, -1, LOW, HIGH);
        refused(c, "look at person", UNKNOWN, v -> x.look(2, v), 2, 7, 8, -1, LOW, HIGH);
        refused(c, "look at neither", UNKNOWN, v -> x.look(v, v), 3, -1, LOW, HIGH);
        c.due("no shots", new OpenEyes().look(0, 0), UNKNOWN);
    }
}
