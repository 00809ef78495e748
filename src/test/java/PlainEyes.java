import java.math.BigInteger;
import java.util.ArrayList;
import java.util.Arrays;
import java.util.HashMap;
import java.util.List;
import java.util.Map;

/** The document once more, in the plainest and slowest way: everything is tried out. */
final class PlainEyes {
    static final int UNKNOWN = -1, OUTSIDE = -2, STATE = -3, FULL = -4, NO = -5, NONE = -6;
    static final long REFUSED = -1000000000000000002L;

    /** All but the pad, by name; a copy of it is an image. */
    private Map<String, Integer> all = new HashMap<>();
    private List<String> shots = new ArrayList<>();
    private final StringBuilder pad = new StringBuilder();
    private final List<Map<String, Integer>> images = new ArrayList<>(Arrays.asList(null, null));
    private final List<List<String>> imageShots = new ArrayList<>(Arrays.asList(null, null));

    private int get(String name, int first) {
        return all.getOrDefault(name, first);
    }

    private int put(String name, int first, int v) {
        int was = get(name, first);
        all.put(name, v);
        return was;
    }

    private int n() {
        return get("n", 4);
    }

    private int rows() {
        return get("rows", 2);
    }

    private int columns() {
        return get("columns", 3);
    }

    private int places() {
        return rows() * columns();
    }

    private boolean noPerson(int k) {
        return k < 0 || k >= n();
    }

    int people(int n) {
        if (n < 1 || n > 8) return OUTSIDE;
        int was = n();
        List<String> stay = List.of("flash", "tired", "rows", "columns", "rise");
        all.keySet().removeIf(name -> !stay.contains(name));
        shots = new ArrayList<>();
        all.put("n", n);
        return was;
    }

    int bride(int person) {
        if (person < -1 || person >= n()) return UNKNOWN;
        return put("bride", NONE, person == -1 ? NONE : person);
    }

    int say(int sign) {
        if (sign < 33 || sign > 126) return OUTSIDE;
        if (pad.length() == 40) return FULL;
        return pad.append((char) sign).length();
    }

    int wipe() {
        int was = pad.length();
        pad.setLength(0);
        return was;
    }

    int fault(int how) {
        if (how != 0 && how != 1) return OUTSIDE;
        for (int i = 0; i < pad.length(); i++) {
            if (i == n()) return i;
            char c = pad.charAt(i);
            if (how == 0 && "osth".indexOf(c) < 0) return i;
            if (how == 1 && "01234567".substring(0, places()).indexOf(c) < 0) return i;
            if (how == 1 && pad.substring(0, i).indexOf(c) >= 0) return i;
        }
        return pad.length() < n() ? pad.length() : NONE;
    }

    int shot() {
        if (fault(0) != NONE) return NO;
        if (shots.size() == 10) return FULL;
        shots.add(pad.toString());
        pad.setLength(0);
        return shots.size() - 1;
    }

    int look(int shot, int person) {
        if (shot < 0 || shot >= shots.size() || noPerson(person)) return UNKNOWN;
        return shots.get(shot).charAt(person);
    }

    private static int countOf(String text, String signs) {
        int count = 0;
        for (char c : text.toCharArray()) if (signs.indexOf(c) >= 0) count++;
        return count;
    }

    int single(int what) {
        if (what != 0 && what != 1) return OUTSIDE;
        int bride = get("bride", NONE);
        for (int bad = 0; bad <= 8; bad++) {
            for (int hidden = 0; hidden <= 8; hidden++) {
                for (int s = 0; s < shots.size(); s++) {
                    String text = shots.get(s);
                    if (bride != NONE && text.charAt(bride) != 'o') continue;
                    if (countOf(text, "sth") == bad && countOf(text, "h") == hidden) return what == 0 ? s : bad;
                }
            }
        }
        return NONE;
    }

    int cover() {
        for (int size = 1; size <= shots.size(); size++) {
            for (int set = 0; set < 1 << shots.size(); set++) {
                if (Integer.bitCount(set) == size && covers(set)) return set;
            }
        }
        return NONE;
    }

    private boolean covers(int set) {
        for (int k = 0; k < n(); k++) {
            boolean open = false;
            for (int s = 0; s < shots.size(); s++) {
                if ((set & 1 << s) != 0 && look(s, k) == 'o') open = true;
            }
            if (!open) return false;
        }
        return true;
    }

    int spoils(int what) {
        if (what != 0 && what != 1) return OUTSIDE;
        int[] times = new int[n()];
        for (String text : shots) {
            for (int k = 0; k < n(); k++) if (text.charAt(k) != 'o') times[k]++;
        }
        int most = Arrays.stream(times).max().getAsInt();
        if (what == 1) return most;
        for (int k = 0; k < n(); k++) if (most > 0 && times[k] == most) return k;
        return NONE;
    }

    int hands(int pairs) {
        if (pairs < 0 || pairs >= 1 << (n() - 1)) return OUTSIDE;
        return put("hands", 0, pairs);
    }

    private int[] bestHeads;
    private int bestCost;

    /** Tries all heads in their order; a cost is the cuts, or the bad ones if these may be. */
    private void tryHeads(int[] heads, int k, int cost, boolean badToo) {
        if (cost >= bestCost) return;
        if (k == n()) {
            bestCost = cost;
            bestHeads = heads.clone();
            return;
        }
        for (int s = 0; s < shots.size(); s++) {
            boolean bad = look(s, k) != 'o';
            boolean cut = k > 0 && heads[k - 1] != s;
            if (bad && !badToo) continue;
            if (cut && (get("hands", 0) & 1 << (k - 1)) != 0) continue;
            heads[k] = s;
            tryHeads(heads, k + 1, cost + ((badToo ? bad : cut) ? 1 : 0), badToo);
        }
    }

    private void tryAllHeads(boolean badToo) {
        bestHeads = null;
        bestCost = 1000;
        tryHeads(new int[n()], 0, 0, badToo);
    }

    int heads(int i) {
        if (i < -1 || i >= n()) return NONE;
        tryAllHeads(false);
        if (bestHeads == null) return NONE;
        return i == -1 ? bestCost : bestHeads[i];
    }

    int left() {
        if (shots.isEmpty()) return NONE;
        if (heads(-1) != NONE) return 0;
        tryAllHeads(true);
        return bestCost;
    }

    int blink(int person, int what, int v) {
        if (noPerson(person)) return UNKNOWN;
        int period = get("period" + person, 30);
        int shut = get("shut" + person, 2);
        if (what == 0) return v < 1 || v > 60 || v < shut ? OUTSIDE : put("period" + person, 30, v);
        if (what == 1) return v < 0 || v > period ? OUTSIDE : put("shut" + person, 2, v);
        if (what == 2) return v < 0 || v > 59 ? OUTSIDE : put("phase" + person, 0, v);
        return OUTSIDE;
    }

    int flash(int tenth) {
        return tenth < -1 || tenth > 999 ? OUTSIDE : put("flash", -1, tenth);
    }

    int open(int tenth) {
        if (tenth < 0 || tenth > 999) return OUTSIDE;
        int flash = get("flash", -1);
        int bits = 0;
        for (int k = 0; k < n(); k++) {
            int at = (tenth + get("phase" + k, 0)) % get("period" + k, 30);
            boolean shut = at < get("shut" + k, 2);
            if (flash != -1 && (tenth - flash == 1 || tenth - flash == 2)) shut = true;
            if (!shut) bits += 1 << k;
        }
        return bits;
    }

    int fire(int from, int to, int what) {
        if (from < 0 || from > 999 || to < 0 || to > 999 || to < from) return OUTSIDE;
        if (what < 0 || what > 2) return OUTSIDE;
        int[] counts = new int[1000];
        int most = 0;
        int all = 0;
        for (int x = from; x <= to; x++) {
            counts[x] = Integer.bitCount(open(x));
            most = Math.max(most, counts[x]);
            if (counts[x] == n()) all++;
        }
        if (what == 2) return all;
        if (what == 1) return most;
        int best = from;
        while (counts[best] < most) best++;
        return best;
    }

    int bad(int person, int v) {
        if (person < -1 || person >= n()) return UNKNOWN;
        if (person == -1) return v < 0 || v > 20 ? OUTSIDE : put("tired", 20, v);
        return v < 0 || v > 4 ? OUTSIDE : put("quarters" + person, 1, v);
    }

    private int quarters(int shot, int person) {
        int q = get("quarters" + person, 1);
        return shot >= get("tired", 20) && q < 4 ? q + 1 : q;
    }

    /** Upper and lower number of that all are open in one at least of shots from k to less than end. */
    private BigInteger[] oneOf(int k, int end) {
        BigInteger upper = BigInteger.ONE;
        BigInteger lower = BigInteger.ONE;
        for (int shot = k; shot < end; shot++) {
            BigInteger open = BigInteger.ONE;
            BigInteger of = BigInteger.ONE;
            for (int p = 0; p < n(); p++) {
                open = open.multiply(BigInteger.valueOf(4 - quarters(shot, p)));
                of = of.multiply(BigInteger.valueOf(4));
            }
            upper = upper.multiply(of.subtract(open));
            lower = lower.multiply(of);
        }
        upper = lower.subtract(upper);
        BigInteger both = upper.gcd(lower);
        return new BigInteger[] {upper.divide(both), lower.divide(both)};
    }

    long likely(int k, int part) {
        if (k < 0 || k > 20 || part < 0 || part > 1) return REFUSED;
        return oneOf(k, k + 1)[part].longValueExact();
    }

    long one(int m, int part) {
        if (m < 1 || m > 3 || part < 0 || part > 1) return REFUSED;
        return oneOf(0, m)[part].longValueExact();
    }

    int many(int a, int b) {
        if (b < 1 || b > 100 || a < 0 || a > b) return OUTSIDE;
        for (int m = 1; m <= 3; m++) {
            BigInteger[] odds = oneOf(0, m);
            BigInteger have = odds[0].multiply(BigInteger.valueOf(b));
            if (have.compareTo(odds[1].multiply(BigInteger.valueOf(a))) >= 0) return m;
        }
        return NONE;
    }

    int shoot(int seed, int m, int what) {
        if (seed < 0 || seed > 9999 || m < 1 || m > 30 || what < 0 || what > 1) return OUTSIDE;
        long x = seed;
        int first = NONE;
        int count = 0;
        for (int shot = 0; shot < m; shot++) {
            int bad = 0;
            for (int p = 0; p < n(); p++) {
                x = (75 * x + 74) % 65537;
                if (x % 4 < quarters(shot, p)) bad++;
            }
            if (bad > 0) continue;
            if (count == 0) first = shot;
            count++;
        }
        return what == 0 ? first : count;
    }

    int stair(int rows, int columns) {
        if (rows < 1 || rows > 3 || columns < 1 || columns > 4 || rows * columns > 8) return OUTSIDE;
        all.put("rows", rows);
        all.put("columns", columns);
        return rows * columns;
    }

    int tall(int person, int v) {
        if (person < -1 || person >= n()) return UNKNOWN;
        if (person == -1) return v < 0 || v > 50 ? OUTSIDE : put("rise", 10, v);
        return v < 0 || v > 250 ? OUTSIDE : put("tall" + person, 170, v);
    }

    private static String pairName(int one, int other) {
        return "pair" + Math.min(one, other) + "," + Math.max(one, other);
    }

    int pair(int one, int other, int how) {
        if (noPerson(one) || noPerson(other) || one == other) return UNKNOWN;
        if (how < 0 || how > 2) return OUTSIDE;
        return put(pairName(one, other), 0, how);
    }

    private boolean hidden(int[] at, int k) {
        for (int j = 0; j < n(); j++) {
            for (int ahead = at[k] - columns(); ahead >= 0; ahead -= columns()) {
                int mine = get("tall" + k, 170) + get("rise", 10) * (at[k] / columns());
                int his = get("tall" + j, 170) + get("rise", 10) * (ahead / columns());
                if (at[j] == ahead && mine <= his) return true;
            }
        }
        return false;
    }

    private boolean beside(int a, int b) {
        int low = Math.min(a, b);
        int high = Math.max(a, b);
        boolean row = high - low == 1 && low / columns() == high / columns();
        return row || high - low == columns();
    }

    private int wrong(int[] at, int k) {
        if (hidden(at, k)) return 1;
        for (int j = 0; j < n(); j++) {
            if (j != k && get(pairName(j, k), 0) == 1 && beside(at[j], at[k])) return 2;
        }
        for (int j = 0; j < n(); j++) {
            if (j != k && get(pairName(j, k), 0) == 2 && !beside(at[j], at[k])) return 3;
        }
        return 0;
    }

    int judge(int what) {
        if (what != 0 && what != 1) return OUTSIDE;
        if (fault(1) != NONE) return NO;
        int[] at = new int[n()];
        for (int k = 0; k < n(); k++) at[k] = pad.charAt(k) - '0';
        for (int k = 0; k < n(); k++) {
            int wrong = wrong(at, k);
            if (wrong != 0) return what == 0 ? k : wrong;
        }
        return NONE;
    }

    private int standings;
    private int[] firstStanding;

    private void tryStandings(int[] at, int k) {
        if (k == n()) {
            for (int p = 0; p < n(); p++) if (wrong(at, p) != 0) return;
            if (standings == 0) firstStanding = at.clone();
            standings++;
            return;
        }
        for (int place = 0; place < places(); place++) {
            boolean taken = false;
            for (int j = 0; j < k; j++) if (at[j] == place) taken = true;
            if (taken) continue;
            at[k] = place;
            tryStandings(at, k + 1);
        }
    }

    int placed(int i) {
        if (n() > places()) return STATE;
        if (i < -1 || i >= n()) return NONE;
        standings = 0;
        tryStandings(new int[n()], 0);
        if (i == -1) return standings;
        return standings == 0 ? NONE : firstStanding[i];
    }

    int image(int n) {
        if (n != 0 && n != 1) return OUTSIDE;
        images.set(n, new HashMap<>(all));
        imageShots.set(n, new ArrayList<>(shots));
        return 1;
    }

    int restore(int n) {
        if (n != 0 && n != 1) return OUTSIDE;
        if (images.get(n) == null) return STATE;
        all = new HashMap<>(images.get(n));
        shots = new ArrayList<>(imageShots.get(n));
        return 1;
    }

    int told(int what) {
        if (what >= 10 && what <= 17) return what - 10 < n() ? get("tall" + (what - 10), 170) : OUTSIDE;
        if (what >= 20 && what <= 27) return what - 20 < n() ? get("quarters" + (what - 20), 1) : OUTSIDE;
        if (what < 0 || what > 9) return OUTSIDE;
        int[] told = {pad.length(), n(), shots.size(), get("bride", NONE), get("hands", 0), get("flash", -1),
            get("tired", 20), rows(), columns(), get("rise", 10)};
        return told[what];
    }
}
