/** People on a stair who are to be taken together, all with their eyes open. */
public final class OpenEyes {
    public static final int UNKNOWN = -1, OUTSIDE = -2, STATE = -3, FULL = -4, NO = -5, NONE = -6;
    public static final long GONE = -1000000000000000000L;

    private static final int MOST_PEOPLE = 8;
    private static final int MOST_SHOTS = 10;
    private static final int MOST_SIGNS = 40;
    private static final int MOST_ROWS = 3;
    private static final int MOST_COLUMNS = 4;
    private static final int MOST_PLACES = 8;
    private static final int MOST_TALL = 250;
    private static final int MOST_RISE = 50;
    private static final int LAST_TENTH = 999;
    private static final int LAST_TO_COME = 20;
    private static final int MOST_OF_ONE = 3;
    private static final int LAST_SEED = 9999;
    private static final int MOST_OF_A_SHOOT = 30;
    private static final int IMAGES = 2;

    private final Pad pad;
    private final Scene now;
    private final Scene[] kept;
    private final HeadWork headWork;
    private final PlaceWork placeWork;
    private final int[] standing;

    public OpenEyes() {
        pad = new Pad();
        now = new Scene();
        kept = new Scene[IMAGES];
        headWork = new HeadWork();
        placeWork = new PlaceWork();
        standing = new int[MOST_PEOPLE];
    }

    // ---- 1 shots

    public int people(int n) {
        if (!within(n, 1, MOST_PEOPLE)) return OUTSIDE;
        return now.gather(n);
    }

    public int bride(int person) {
        if (person != -1 && !now.has(person)) return UNKNOWN;
        int was = now.bride;
        now.bride = person == -1 ? NONE : person;
        return was;
    }

    public int say(int sign) {
        if (!within(sign, 33, 126)) return OUTSIDE;
        if (pad.isFull()) return FULL;
        return pad.add(sign);
    }

    public int wipe() {
        return pad.clear();
    }

    public int fault(int how) {
        if (!within(how, 0, 1)) return OUTSIDE;
        return how == 0 ? pad.faultAsShot(now.people) : standingFault();
    }

    public int shot() {
        if (pad.faultAsShot(now.people) != NONE) return NO;
        if (now.shots.isFull()) return FULL;
        int number = now.shots.take(pad, now.people);
        pad.clear();
        return number;
    }

    public int look(int shot, int person) {
        if (!now.shots.has(shot) || !now.has(person)) return UNKNOWN;
        return now.shots.lookOf(shot, person);
    }

    // ---- 2 singles, heads

    public int single(int what) {
        if (!within(what, 0, 1)) return OUTSIDE;
        int best = now.shots.bestSingle(now.people, now.bride);
        if (best == NONE || what == 0) return best;
        return now.shots.badIn(best, now.everybody());
    }

    public int cover() {
        return now.shots.leastCover(now.everybody());
    }

    public int spoils(int what) {
        if (!within(what, 0, 1)) return OUTSIDE;
        int who = now.shots.worstPerson(now.people);
        if (what == 0) return who;
        return who == NONE ? 0 : now.shots.timesBad(who);
    }

    public int hands(int pairs) {
        if (!within(pairs, 0, now.everybody() >> 1)) return OUTSIDE;
        int was = now.shots.hands;
        now.shots.hands = pairs;
        return was;
    }

    public int heads(int i) {
        if (i != -1 && !now.has(i)) return NONE;
        int cuts = headWork.solve(now.shots, now.people);
        if (cuts == NONE || i == -1) return cuts;
        return headWork.shotOf(i);
    }

    public int left() {
        return now.shots.fewestLeft(now.people);
    }

    // ---- 3 blinks

    public int blink(int person, int what, int v) {
        if (!now.has(person)) return UNKNOWN;
        if (!now.blinks.fits(person, what, v)) return OUTSIDE;
        return now.blinks.change(person, what, v);
    }

    public int flash(int tenth) {
        if (!within(tenth, -1, LAST_TENTH)) return OUTSIDE;
        int was = now.blinks.flash;
        now.blinks.flash = tenth;
        return was;
    }

    public int open(int tenth) {
        if (!within(tenth, 0, LAST_TENTH)) return OUTSIDE;
        return now.blinks.openAt(tenth, now.people);
    }

    public int fire(int from, int to, int what) {
        if (!within(from, 0, LAST_TENTH) || !within(to, from, LAST_TENTH)) return OUTSIDE;
        if (!within(what, 0, 2)) return OUTSIDE;
        if (what == 2) return now.blinks.tenthsOfAll(from, to, now.people);
        int best = now.blinks.bestTenth(from, to, now.people);
        return what == 0 ? best : Integer.bitCount(now.blinks.openAt(best, now.people));
    }

    // ---- 4 odds

    public int bad(int person, int v) {
        if (person == -1) return within(v, 0, LAST_TO_COME) ? now.odds.changeTired(v) : OUTSIDE;
        if (!now.has(person)) return UNKNOWN;
        return within(v, 0, 4) ? now.odds.changeQuarters(person, v) : OUTSIDE;
    }

    public long likely(int k, int part) {
        if (!within(k, 0, LAST_TO_COME) || !within(part, 0, 1)) return GONE + OUTSIDE;
        return lowest(now.odds.waysAllOpen(k, now.people), Odds.waysOf(1, now.people), part);
    }

    public long one(int m, int part) {
        if (!within(m, 1, MOST_OF_ONE) || !within(part, 0, 1)) return GONE + OUTSIDE;
        return lowest(now.odds.waysOneOf(m, now.people), Odds.waysOf(m, now.people), part);
    }

    public int many(int a, int b) {
        if (!within(b, 1, 100) || !within(a, 0, b)) return OUTSIDE;
        for (int m = 1; m <= MOST_OF_ONE; m++) {
            // At most 2 to the 48th times 100: both sides fit a long.
            if (now.odds.waysOneOf(m, now.people) * b >= Odds.waysOf(m, now.people) * a) return m;
        }
        return NONE;
    }

    public int shoot(int seed, int m, int what) {
        if (!within(seed, 0, LAST_SEED) || !within(m, 1, MOST_OF_A_SHOOT)) return OUTSIDE;
        if (!within(what, 0, 1)) return OUTSIDE;
        int good = now.odds.drawShots(seed, m, now.people);
        if (what == 1) return Integer.bitCount(good);
        return good == 0 ? NONE : Integer.numberOfTrailingZeros(good);
    }

    // ---- 5 the stair

    public int stair(int rows, int columns) {
        if (!within(rows, 1, MOST_ROWS) || !within(columns, 1, MOST_COLUMNS)) return OUTSIDE;
        if (rows * columns > MOST_PLACES) return OUTSIDE;
        return now.stair.build(rows, columns);
    }

    public int tall(int person, int v) {
        if (person == -1) return within(v, 0, MOST_RISE) ? now.stair.changeRise(v) : OUTSIDE;
        if (!now.has(person)) return UNKNOWN;
        return within(v, 0, MOST_TALL) ? now.stair.changeTall(person, v) : OUTSIDE;
    }

    public int pair(int one, int other, int how) {
        if (!now.has(one) || !now.has(other) || one == other) return UNKNOWN;
        if (!within(how, 0, 2)) return OUTSIDE;
        return now.stair.changePair(one, other, how);
    }

    public int judge(int what) {
        if (!within(what, 0, 1)) return OUTSIDE;
        if (standingFault() != NONE) return NO;
        pad.readStanding(standing, now.people);
        int person = now.stair.firstWrong(standing, now.people);
        if (person == NONE || what == 0) return person;
        return now.stair.wrongFor(person, standing, now.people);
    }

    public int placed(int i) {
        if (now.people > now.stair.places()) return STATE;
        if (i != -1 && !now.has(i)) return NONE;
        placeWork.solve(now.stair, now.people);
        return i == -1 ? placeWork.count : placeWork.firstOf(i);
    }

    public int image(int n) {
        if (!within(n, 0, IMAGES - 1)) return OUTSIDE;
        if (kept[n] == null) kept[n] = new Scene();
        kept[n].copyFrom(now);
        return 1;
    }

    public int restore(int n) {
        if (!within(n, 0, IMAGES - 1)) return OUTSIDE;
        if (kept[n] == null) return STATE;
        now.copyFrom(kept[n]);
        return 1;
    }

    public int told(int what) {
        if (now.has(what - 10)) return now.stair.tallOf(what - 10);
        if (now.has(what - 20)) return now.odds.quartersOf(what - 20);
        switch (what) {
            case 0: return pad.count;
            case 1: return now.people;
            case 2: return now.shots.count;
            case 3: return now.bride;
            case 4: return now.shots.hands;
            case 5: return now.blinks.flash;
            case 6: return now.odds.tired;
            case 7: return now.stair.rows;
            case 8: return now.stair.columns;
            case 9: return now.stair.rise;
            default: return OUTSIDE;
        }
    }

    private int standingFault() {
        return pad.faultAsStanding(now.people, now.stair.places());
    }

    private static boolean within(int v, int least, int most) {
        return v >= least && v <= most;
    }

    /** The lower number is a power of two, so halving both is enough. */
    private static long lowest(long upper, long lower, int part) {
        long up = upper;
        long low = lower;
        for (int halved = 0; halved < 64 && low > 1 && up % 2 == 0; halved++) {
            up /= 2;
            low /= 2;
        }
        return part == 0 ? up : low;
    }

    /** The signs said since the pad was last empty. */
    private static final class Pad {
        private final int[] signs = new int[MOST_SIGNS];
        private int count;

        boolean isFull() {
            return count >= MOST_SIGNS;
        }

        int add(int sign) {
            if (isFull()) return count;
            signs[count] = sign;
            count++;
            return count;
        }

        int clear() {
            int was = count;
            count = 0;
            return was;
        }

        int signAt(int i) {
            return i < 0 || i >= count ? 0 : signs[i];
        }

        int faultAsShot(int people) {
            for (int i = 0; i < count && i < people; i++) {
                if (!isLook(signAt(i))) return i;
            }
            return faultOfLength(people);
        }

        int faultAsStanding(int people, int places) {
            int taken = 0;
            for (int i = 0; i < count && i < people; i++) {
                int place = signAt(i) - '0';
                if (!within(place, 0, places - 1) || (taken >> place & 1) == 1) return i;
                taken |= 1 << place;
            }
            return faultOfLength(people);
        }

        void readStanding(int[] standing, int people) {
            for (int k = 0; k < people && k < standing.length; k++) {
                standing[k] = signAt(k) - '0';
            }
        }

        private int faultOfLength(int due) {
            return count == due ? NONE : Math.min(count, due);
        }

        private static boolean isLook(int sign) {
            return sign == 'o' || sign == 's' || sign == 't' || sign == 'h';
        }
    }

    /** All that an image keeps. */
    private static final class Scene {
        private int people = 4;
        private int bride = NONE;
        private final Shots shots = new Shots();
        private final Blinks blinks = new Blinks();
        private final Odds odds = new Odds();
        private final Stair stair = new Stair();

        boolean has(int person) {
            return person >= 0 && person < people;
        }

        int everybody() {
            return (1 << people) - 1;
        }

        int gather(int n) {
            int was = people;
            people = n;
            bride = NONE;
            shots.startPeople();
            blinks.startPeople();
            odds.startPeople();
            stair.startPeople();
            return was;
        }

        void copyFrom(Scene other) {
            people = other.people;
            bride = other.bride;
            shots.copyFrom(other.shots);
            blinks.copyFrom(other.blinks);
            odds.copyFrom(other.odds);
            stair.copyFrom(other.stair);
        }
    }

    /** The shots taken, and who hold hands in all of them. */
    private static final class Shots {
        private int count;
        private int hands;
        private final int[] looks = new int[MOST_SHOTS * MOST_PEOPLE];
        private final int[] openBits = new int[MOST_SHOTS];

        void startPeople() {
            count = 0;
            hands = 0;
        }

        void copyFrom(Shots other) {
            count = other.count;
            hands = other.hands;
            System.arraycopy(other.looks, 0, looks, 0, MOST_SHOTS * MOST_PEOPLE);
            System.arraycopy(other.openBits, 0, openBits, 0, MOST_SHOTS);
        }

        boolean isFull() {
            return count >= MOST_SHOTS;
        }

        boolean has(int shot) {
            return shot >= 0 && shot < count;
        }

        int take(Pad pad, int people) {
            if (isFull()) return NONE;
            int number = count;
            openBits[number] = 0;
            for (int k = 0; k < people; k++) {
                int sign = pad.signAt(k);
                looks[number * MOST_PEOPLE + k] = sign;
                if (sign == 'o') openBits[number] |= 1 << k;
            }
            count++;
            return number;
        }

        int lookOf(int shot, int person) {
            return looks[shot * MOST_PEOPLE + person];
        }

        boolean isOpen(int shot, int person) {
            return (openBits[shot] >> person & 1) == 1;
        }

        boolean holdHands(int person) {
            return (hands >> person & 1) == 1;
        }

        int badIn(int shot, int whom) {
            return Integer.bitCount(whom & ~openBits[shot]);
        }

        int hiddenIn(int shot, int people) {
            int hidden = 0;
            for (int k = 0; k < people; k++) {
                if (lookOf(shot, k) == 'h') hidden++;
            }
            return hidden;
        }

        int bestSingle(int people, int bride) {
            int best = NONE;
            int fewest = 0;
            for (int s = 0; s < count; s++) {
                if (bride != NONE && !isOpen(s, bride)) continue;
                // Hidden ones only break ties: they weigh less than one who is bad.
                int weight = badIn(s, (1 << people) - 1) * (MOST_PEOPLE + 1) + hiddenIn(s, people);
                if (best == NONE || weight < fewest) {
                    best = s;
                    fewest = weight;
                }
            }
            return best;
        }

        int leastCover(int everybody) {
            int best = NONE;
            int fewest = MOST_SHOTS + 1;
            for (int set = 1; set < 1 << count; set++) {
                int size = Integer.bitCount(set);
                if (size < fewest && openInSome(set) == everybody) {
                    best = set;
                    fewest = size;
                }
            }
            return best;
        }

        private int openInSome(int set) {
            int bits = 0;
            for (int s = 0; s < count; s++) {
                if ((set >> s & 1) == 1) bits |= openBits[s];
            }
            return bits;
        }

        int worstPerson(int people) {
            int worst = NONE;
            int most = 0;
            for (int k = 0; k < people; k++) {
                int times = timesBad(k);
                if (times > most) {
                    worst = k;
                    most = times;
                }
            }
            return worst;
        }

        int timesBad(int person) {
            int times = 0;
            for (int s = 0; s < count; s++) {
                if (!isOpen(s, person)) times++;
            }
            return times;
        }

        /** A chain of hands is from one shot, and chains do not mind one another. */
        int fewestLeft(int people) {
            if (count == 0) return NONE;
            int left = 0;
            int chain = 0;
            for (int k = 0; k < people; k++) {
                chain |= 1 << k;
                if (!holdHands(k)) {
                    left += fewestBad(chain);
                    chain = 0;
                }
            }
            return left;
        }

        private int fewestBad(int whom) {
            int fewest = MOST_PEOPLE;
            for (int s = 0; s < count; s++) {
                fewest = Math.min(fewest, badIn(s, whom));
            }
            return fewest;
        }
    }

    /** Heads by the fewest cuts, worked out from the last person to the first. */
    private static final class HeadWork {
        // More than all cuts there can be, and far below what sums could wrap.
        private static final int NEVER = 1000;

        private final int[] cutsFrom = new int[MOST_PEOPLE * MOST_SHOTS];
        private final int[] chosen = new int[MOST_PEOPLE];

        int shotOf(int person) {
            return chosen[person];
        }

        /** The cuts, or NONE; the shots chosen stay for shotOf. */
        int solve(Shots shots, int people) {
            int cuts = 0;
            for (int k = people - 1; k >= 0; k--) {
                cuts = fillRow(shots, k, k == people - 1, cuts);
            }
            if (cuts >= NEVER) return NONE;
            choose(shots, people);
            return cuts;
        }

        /** The fewest cuts from person k on for each shot of his; answers the least of them. */
        private int fillRow(Shots shots, int k, boolean last, int leastBehind) {
            int least = NEVER;
            for (int s = 0; s < shots.count; s++) {
                int cuts = NEVER;
                if (shots.isOpen(s, k)) cuts = last ? 0 : cutsBehind(shots, k, s, leastBehind);
                cutsFrom[k * MOST_SHOTS + s] = cuts;
                least = Math.min(least, cuts);
            }
            return least;
        }

        private int cutsBehind(Shots shots, int k, int s, int leastBehind) {
            int same = cutsFrom[(k + 1) * MOST_SHOTS + s];
            if (shots.holdHands(k)) return same;
            return Math.min(NEVER, Math.min(same, leastBehind + 1));
        }

        private void choose(Shots shots, int people) {
            chosen[0] = firstLeast(shots.count);
            for (int k = 1; k < people; k++) {
                chosen[k] = firstBehind(shots, k, chosen[k - 1]);
            }
        }

        private int firstLeast(int count) {
            int best = 0;
            for (int s = 1; s < count; s++) {
                if (cutsFrom[s] < cutsFrom[best]) best = s;
            }
            return best;
        }

        private int firstBehind(Shots shots, int k, int before) {
            if (shots.holdHands(k - 1)) return before;
            int due = cutsFrom[(k - 1) * MOST_SHOTS + before];
            for (int s = 0; s < shots.count; s++) {
                int cut = s == before ? 0 : 1;
                if (cutsFrom[k * MOST_SHOTS + s] + cut == due) return s;
            }
            return before;
        }
    }

    /** Whose eyes are open at which tenth. */
    private static final class Blinks {
        private static final int PERIOD = 0, SHUT = 1, PHASE = 2, SETTINGS = 3;
        private static final int LAST_PERIOD = 60, LAST_PHASE = 59;

        private int flash = -1;
        private final int[] settings = new int[MOST_PEOPLE * SETTINGS];

        Blinks() {
            startPeople();
        }

        void startPeople() {
            for (int k = 0; k < MOST_PEOPLE; k++) {
                settings[k * SETTINGS + PERIOD] = 30;
                settings[k * SETTINGS + SHUT] = 2;
                settings[k * SETTINGS + PHASE] = 0;
            }
        }

        void copyFrom(Blinks other) {
            flash = other.flash;
            System.arraycopy(other.settings, 0, settings, 0, MOST_PEOPLE * SETTINGS);
        }

        boolean fits(int person, int what, int v) {
            switch (what) {
                case PERIOD: return within(v, Math.max(1, settingOf(person, SHUT)), LAST_PERIOD);
                case SHUT: return within(v, 0, settingOf(person, PERIOD));
                case PHASE: return within(v, 0, LAST_PHASE);
                default: return false;
            }
        }

        int change(int person, int what, int v) {
            int was = settingOf(person, what);
            settings[person * SETTINGS + what] = v;
            return was;
        }

        private int settingOf(int person, int what) {
            return settings[person * SETTINGS + what];
        }

        int openAt(int tenth, int people) {
            if (isFlashed(tenth)) return 0;
            int bits = 0;
            for (int k = 0; k < people; k++) {
                if (!isShut(k, tenth)) bits |= 1 << k;
            }
            return bits;
        }

        private boolean isFlashed(int tenth) {
            return flash >= 0 && (tenth == flash + 1 || tenth == flash + 2);
        }

        private boolean isShut(int person, int tenth) {
            int period = settingOf(person, PERIOD);
            if (period < 1) return false;
            return (tenth + settingOf(person, PHASE)) % period < settingOf(person, SHUT);
        }

        int bestTenth(int from, int to, int people) {
            int best = from;
            int most = -1;
            for (int x = from; x <= to && most < people; x++) {
                int open = Integer.bitCount(openAt(x, people));
                if (open > most) {
                    best = x;
                    most = open;
                }
            }
            return best;
        }

        int tenthsOfAll(int from, int to, int people) {
            int everybody = (1 << people) - 1;
            int tenths = 0;
            for (int x = from; x <= to; x++) {
                if (openAt(x, people) == everybody) tenths++;
            }
            return tenths;
        }
    }

    /** How likely people are bad in shots to come, counted in ways of quarters. */
    private static final class Odds {
        private int tired = LAST_TO_COME;
        private final int[] quarters = new int[MOST_PEOPLE];

        Odds() {
            startPeople();
        }

        void startPeople() {
            for (int k = 0; k < MOST_PEOPLE; k++) quarters[k] = 1;
        }

        void copyFrom(Odds other) {
            tired = other.tired;
            System.arraycopy(other.quarters, 0, quarters, 0, MOST_PEOPLE);
        }

        int changeTired(int v) {
            int was = tired;
            tired = v;
            return was;
        }

        int changeQuarters(int person, int v) {
            int was = quarters[person];
            quarters[person] = v;
            return was;
        }

        int quartersOf(int person) {
            return quarters[person];
        }

        private int quartersIn(int shot, int person) {
            return shot < tired ? quarters[person] : Math.min(4, quarters[person] + 1);
        }

        /** All the ways that m shots can come out, four for each person in each. */
        static long waysOf(int m, int people) {
            return 1L << (2 * m * people);
        }

        long waysAllOpen(int shot, int people) {
            long ways = 1;
            for (int k = 0; k < people; k++) {
                ways *= 4 - quartersIn(shot, k);
            }
            return ways;
        }

        long waysOneOf(int m, int people) {
            long without = 1;
            for (int shot = 0; shot < m; shot++) {
                without *= waysOf(1, people) - waysAllOpen(shot, people);
            }
            return waysOf(m, people) - without;
        }

        /** The shots of a shoot in which all are open, as bits: 30 at most, so they fit. */
        int drawShots(int seed, int m, int people) {
            int good = 0;
            int x = seed;
            for (int shot = 0; shot < m; shot++) {
                boolean all = true;
                for (int k = 0; k < people; k++) {
                    x = (75 * x + 74) % 65537;
                    if (x % 4 < quartersIn(shot, k)) all = false;
                }
                if (all) good |= 1 << shot;
            }
            return good;
        }
    }

    /** The stair, and what matters of people when they stand on it. */
    private static final class Stair {
        private static final int PARTED = 1, TOGETHER = 2;
        private static final int FINE = 0, IS_HIDDEN = 1, BESIDE_PARTED = 2, NOT_BESIDE = 3;

        private int rows = 2;
        private int columns = 3;
        private int rise = 10;
        private final int[] talls = new int[MOST_PEOPLE];
        private final int[] pairs = new int[MOST_PEOPLE * MOST_PEOPLE];
        // Counting standings is dear: it is done again only after a change.
        private boolean changed;

        Stair() {
            startPeople();
        }

        void startPeople() {
            for (int k = 0; k < MOST_PEOPLE; k++) talls[k] = 170;
            for (int i = 0; i < MOST_PEOPLE * MOST_PEOPLE; i++) pairs[i] = 0;
            changed = true;
        }

        void copyFrom(Stair other) {
            rows = other.rows;
            columns = other.columns;
            rise = other.rise;
            System.arraycopy(other.talls, 0, talls, 0, MOST_PEOPLE);
            System.arraycopy(other.pairs, 0, pairs, 0, MOST_PEOPLE * MOST_PEOPLE);
            changed = true;
        }

        int places() {
            return rows * columns;
        }

        int tallOf(int person) {
            return talls[person];
        }

        int build(int newRows, int newColumns) {
            rows = newRows;
            columns = newColumns;
            changed = true;
            return places();
        }

        int changeRise(int v) {
            int was = rise;
            rise = v;
            changed = true;
            return was;
        }

        int changeTall(int person, int v) {
            int was = talls[person];
            talls[person] = v;
            changed = true;
            return was;
        }

        int changePair(int a, int b, int how) {
            int was = pairs[a * MOST_PEOPLE + b];
            pairs[a * MOST_PEOPLE + b] = how;
            pairs[b * MOST_PEOPLE + a] = how;
            changed = true;
            return was;
        }

        int firstWrong(int[] standing, int people) {
            for (int k = 0; k < people; k++) {
                if (wrongFor(k, standing, people) != FINE) return k;
            }
            return NONE;
        }

        /** The least that is wrong for a person in a standing, or FINE. */
        int wrongFor(int person, int[] standing, int people) {
            int least = FINE;
            for (int k = 0; k < people && k < standing.length; k++) {
                if (k == person) continue;
                int wrong = wrongBetween(person, standing[person], k, standing[k]);
                if (wrong != FINE && (least == FINE || wrong < least)) least = wrong;
            }
            return least;
        }

        /** What is wrong for a person because of one other alone. */
        private int wrongBetween(int person, int place, int other, int otherPlace) {
            if (isHidden(person, place, other, otherPlace)) return IS_HIDDEN;
            int how = pairs[person * MOST_PEOPLE + other];
            if (how == 0) return FINE;
            boolean beside = areNeighbours(place, otherPlace);
            if (how == PARTED && beside) return BESIDE_PARTED;
            if (how == TOGETHER && !beside) return NOT_BESIDE;
            return FINE;
        }

        boolean suits(int person, int place, int other, int otherPlace) {
            return place != otherPlace
                && wrongBetween(person, place, other, otherPlace) == FINE
                && wrongBetween(other, otherPlace, person, place) == FINE;
        }

        private boolean isHidden(int person, int place, int other, int otherPlace) {
            if (columnOf(place) != columnOf(otherPlace)) return false;
            int row = rowOf(place);
            int otherRow = rowOf(otherPlace);
            if (row <= otherRow) return false;
            return talls[person] + rise * row <= talls[other] + rise * otherRow;
        }

        private boolean areNeighbours(int place, int other) {
            int steps = Math.abs(rowOf(place) - rowOf(other));
            int sideways = Math.abs(columnOf(place) - columnOf(other));
            return steps + sideways == 1;
        }

        private int rowOf(int place) {
            return columns < 1 ? 0 : place / columns;
        }

        private int columnOf(int place) {
            return columns < 1 ? 0 : place % columns;
        }
    }

    /**
     * Counts good standings. What two people may do to one another rules all, so for each person
     * at each place a row of eight bytes, one for each person, says which places are left to those
     * behind; all rows that hold are joined by 'and'.
     */
    private static final class PlaceWork {
        private final long[] leaves = new long[MOST_PEOPLE * MOST_PLACES];
        private final int[] first = new int[MOST_PEOPLE];
        private int people;
        private int count;

        int firstOf(int person) {
            return first[person];
        }

        void solve(Stair stair, int howMany) {
            if (!stair.changed) return;
            stair.changed = false;
            people = howMany;
            for (int k = 0; k < MOST_PEOPLE; k++) first[k] = NONE;
            for (int k = 0; k < people; k++) {
                for (int place = 0; place < stair.places(); place++) {
                    leaves[k * MOST_PLACES + place] = leftBehind(stair, k, place);
                }
            }
            count = countFrom(this, 0, allPlaces(stair));
        }

        private long leftBehind(Stair stair, int person, int place) {
            long left = 0;
            for (int k = person + 1; k < people; k++) {
                for (int p = 0; p < stair.places(); p++) {
                    if (stair.suits(person, place, k, p)) left |= bitOf(k, p);
                }
            }
            return left;
        }

        private long allPlaces(Stair stair) {
            long all = 0;
            for (int k = 0; k < people; k++) {
                for (int p = 0; p < stair.places(); p++) all |= bitOf(k, p);
            }
            return all;
        }

        private static long bitOf(int person, int place) {
            return 1L << (person * MOST_PLACES + place);
        }

        /**
         * How many standings there are from a person on. They are met in their order, so the first
         * place of each person behind which there is any makes the first standing.
         */
        private static int countFrom(PlaceWork work, int person, long free) {
            if (person < 0 || person >= work.people) return 1;
            int mine = (int) (free >>> (person * MOST_PLACES)) & 255;
            if (person == work.people - 1) {
                if (mine != 0) work.noteFirst(person, Integer.numberOfTrailingZeros(mine));
                return Integer.bitCount(mine);
            }
            int found = 0;
            for (int place = 0; place < MOST_PLACES; place++) {
                if ((mine >> place & 1) == 0) continue;
                int more = countFrom(work, person + 1, free & work.leaves[person * MOST_PLACES + place]);
                if (more > 0) work.noteFirst(person, place);
                found += more;
            }
            return found;
        }

        private void noteFirst(int person, int place) {
            if (first[person] == NONE) first[person] = place;
        }
    }
}
