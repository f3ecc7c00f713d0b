import java.math.BigInteger;
import java.util.ArrayDeque;
import java.util.ArrayList;
import java.util.Arrays;
import java.util.Deque;
import java.util.List;

/** The document once more, in the slowest and plainest way that can be: every answer by trying all there is. */
final class Model {
    private static final int UNKNOWN = -1, OUTSIDE = -2, STATE = -3, FULL = -4, NONE = -9;

    record Vessel(int measure, int kind) {
    }

    record Guest(int kind, List<Integer> seats) {
    }

    record Sight(int drinker, int was, int is) {
    }

    /** Parts of a text, or null where it is no inn. */
    record Told(List<Vessel> vessels, List<Guest> guests, int[] contents, int[] thirsts) {
    }

    static final class Evening {
        int[] contents;
        int[] ages;
        int[] thirsts;
        int hour;

        Evening copy() {
            Evening e = new Evening();
            e.contents = contents.clone();
            e.ages = ages.clone();
            e.thirsts = thirsts.clone();
            e.hour = hour;
            return e;
        }
    }

    private String text = "";
    private List<Vessel> vessels = new ArrayList<>();
    private List<Guest> guests = new ArrayList<>();
    private Evening now = begin(new int[0], new int[0]);
    private final Deque<Evening> acts = new ArrayDeque<>();
    private final Evening[] slots = new Evening[2];
    private final List<Sight> sights = new ArrayList<>();
    private long seed = 0;

    private static Evening begin(int[] contents, int[] thirsts) {
        Evening e = new Evening();
        e.contents = contents.clone();
        e.ages = new int[contents.length];
        e.thirsts = thirsts.clone();
        return e;
    }

    // ---- the inn

    int write(int letter) {
        if (letter < 0 || letter > 255) return OUTSIDE;
        if (text.length() == 60) return FULL;
        text += (char) letter;
        return text.length();
    }

    int wipe() {
        int n = text.length();
        text = "";
        return n;
    }

    static Told tell(String text) {
        if (!text.matches("G(V[1-9][0-9][0-3]|D[0-9][0-3]|S[0-3][0-4])*")) return null;
        List<Vessel> vessels = new ArrayList<>();
        List<Guest> guests = new ArrayList<>();
        int[] contents = new int[60];
        int[] thirsts = new int[60];
        int i = 1;
        while (i < text.length()) {
            int a = text.charAt(i + 1) - '0';
            int b = text.charAt(i + 2) - '0';
            if (text.charAt(i) == 'V') {
                if (b > a || vessels.size() == 5) return null;
                contents[vessels.size()] = b;
                vessels.add(new Vessel(a, text.charAt(i + 3) - '0'));
                i++;
            } else if (text.charAt(i) == 'D') {
                if (guests.size() == 4) return null;
                thirsts[guests.size()] = a;
                guests.add(new Guest(b, new ArrayList<>()));
            } else {
                if (a >= guests.size() || b >= vessels.size() || guests.get(a).seats().contains(b)) return null;
                guests.get(a).seats().add(b);
            }
            i += 3;
        }
        for (Guest g : guests) g.seats().sort(null);
        return new Told(vessels, guests, Arrays.copyOf(contents, vessels.size()), Arrays.copyOf(thirsts, guests.size()));
    }

    /** Whether an inn begins with this; behind any beginning of one at most three figures are missing. */
    static boolean begins(String text) {
        if (text.isEmpty() || tell(text) != null) return true;
        for (int figures = 1, most = 10; figures <= 3; figures++, most *= 10) {
            for (int n = 0; n < most; n++) {
                if (tell(text + String.format("%0" + figures + "d", n)) != null) return true;
            }
        }
        return false;
    }

    int fault() {
        if (tell(text) != null) return NONE;
        for (int i = 0; i < text.length(); i++) {
            if (!begins(text.substring(0, i + 1))) return i;
        }
        return text.length();
    }

    int inn() {
        Told told = tell(text);
        if (told == null) return STATE;
        vessels = told.vessels();
        guests = told.guests();
        now = begin(told.contents(), told.thirsts());
        acts.clear();
        Arrays.fill(slots, null);
        return 10 * vessels.size() + guests.size();
    }

    private boolean noGlass(int g) {
        return g < 0 || g >= vessels.size();
    }

    private boolean noDrinker(int d) {
        return d < 0 || d >= guests.size();
    }

    int glass(int g, int what) {
        if (noGlass(g)) return UNKNOWN;
        if (what < 0 || what > 5) return OUTSIDE;
        int bits = 0;
        for (int d = 0; d < guests.size(); d++) if (guests.get(d).seats().contains(g)) bits += (int) Math.pow(2, d);
        return new int[] {vessels.get(g).measure(), now.contents[g], vessels.get(g).kind(), now.ages[g], tax(now, g), bits}[what];
    }

    int drinker(int d, int what) {
        if (noDrinker(d)) return UNKNOWN;
        if (what < 0 || what > 3) return OUTSIDE;
        List<Integer> seats = guests.get(d).seats();
        int bits = 0;
        for (int g : seats) bits += (int) Math.pow(2, g);
        int first = seats.isEmpty() ? 0 : drunk(guests.get(d).kind(), now.thirsts[d], now.contents[seats.get(0)]);
        return new int[] {now.thirsts[d], guests.get(d).kind(), bits, first}[what];
    }

    static int drunk(int kind, int thirst, int content) {
        int[] may = {content, content == 0 ? 0 : content - 1, (int) Math.floor(content / 2.0), 0};
        int n = 0;
        while (n < thirst && n < may[kind]) n++;
        return n;
    }

    private int tax(Evening e, int g) {
        int t = e.contents[g];
        if (e.ages[g] >= 3) t = 0;
        if (vessels.get(g).kind() == 3) t = t < 2 ? 0 : t - 2;
        if (t != 0 && e.contents[g] * 2 >= vessels.get(g).measure()) t += 2;
        return t;
    }

    private int taxes(Evening e) {
        int sum = 0;
        for (int g = 0; g < vessels.size(); g++) sum += tax(e, g);
        return sum;
    }

    // ---- acts

    private int did(Evening then, int answer) {
        if (answer >= 0) {
            acts.addLast(now);
            if (acts.size() > 14) acts.removeFirst();
            now = then;
        }
        return answer;
    }

    int pour(int g, int n) {
        Evening then = now.copy();
        return did(then, poured(then, g, n));
    }

    int drink(int d, int g) {
        Evening then = now.copy();
        return did(then, drunk(then, d, g));
    }

    int tip(int g, int h) {
        Evening then = now.copy();
        return did(then, tipped(then, g, h));
    }

    int hour() {
        Evening then = now.copy();
        return did(then, hour(then));
    }

    private int poured(Evening e, int g, int n) {
        if (noGlass(g)) return UNKNOWN;
        if (n < 1 || n > 9) return OUTSIDE;
        int was = e.contents[g];
        if (was == vessels.get(g).measure()) return STATE;
        e.contents[g] = Math.min(was + n, vessels.get(g).measure());
        e.ages[g] = 0;
        return e.contents[g] - was;
    }

    private int drunk(Evening e, int d, int g) {
        if (noDrinker(d) || noGlass(g)) return UNKNOWN;
        if (!guests.get(d).seats().contains(g)) return STATE;
        int n = drunk(guests.get(d).kind(), e.thirsts[d], e.contents[g]);
        e.contents[g] -= n;
        e.thirsts[d] -= n;
        return n;
    }

    private int tipped(Evening e, int g, int h) {
        if (noGlass(g) || noGlass(h)) return UNKNOWN;
        if (g == h) return OUTSIDE;
        if (e.contents[g] == 0 || e.contents[h] == vessels.get(h).measure()) return STATE;
        int n = 0;
        while (e.contents[g] > 0 && e.contents[h] < vessels.get(h).measure()) {
            e.contents[g]--;
            e.contents[h]++;
            n++;
        }
        if (e.ages[g] > e.ages[h]) e.ages[h] = e.ages[g];
        return n;
    }

    private int hour(Evening e) {
        for (int g = 0; g < vessels.size(); g++) {
            if (e.contents[g] == 0) continue;
            if (e.ages[g] < 9) e.ages[g]++;
            if (vessels.get(g).kind() == 1) e.contents[g] -= 1;
            if (vessels.get(g).kind() == 2 && e.ages[g] == 1) e.contents[g] -= (int) Math.floor(e.contents[g] * 0.25);
        }
        e.hour++;
        return taxes(e);
    }

    int undo() {
        if (acts.isEmpty()) return STATE;
        now = acts.removeLast();
        return acts.size();
    }

    // ---- evenings

    private Evening behind(Evening e, List<Integer> order) {
        Evening then = e.copy();
        for (int d : order) for (int g : guests.get(d).seats()) drunk(then, d, g);
        return then;
    }

    private List<Integer> everybody() {
        List<Integer> all = new ArrayList<>();
        for (int d = 0; d < guests.size(); d++) all.add(d);
        return all;
    }

    int left(int g) {
        return noGlass(g) ? UNKNOWN : behind(now, everybody()).contents[g];
    }

    int evening(int what) {
        if (what < 0 || what > 1) return OUTSIDE;
        Evening e = behind(now, everybody());
        return what == 0 ? taxes(e) : Arrays.stream(e.thirsts).sum();
    }

    int pouring(int n, boolean way) {
        if (n < 0 || n > 9) return OUTSIDE;
        int best = NONE;
        int least = NONE;
        for (int number = 0; number < Math.pow(10, vessels.size()); number++) {
            Evening e = pouredBy(number, n);
            if (e == null) continue;
            int taxes = taxes(behind(e, everybody()));
            if (best == NONE || taxes < least) {
                best = number;
                least = taxes;
            }
        }
        return way ? best : least;
    }

    private Evening pouredBy(int number, int n) {
        int sum = 0;
        for (int rest = number; rest > 0; rest /= 10) sum += rest % 10;
        if (sum != n) return null;
        Evening e = now.copy();
        int rest = number;
        for (int g = vessels.size() - 1; g >= 0; g--) {
            int figure = rest % 10;
            rest /= 10;
            if (figure > vessels.get(g).measure() - e.contents[g]) return null;
            if (figure > 0) poured(e, g, figure);
        }
        return e;
    }

    int wake() {
        for (int many = 0; many <= vessels.size(); many++) {
            for (int bits = 0; bits < 32; bits++) {
                if (Integer.toBinaryString(bits).chars().filter(c -> c == '1').count() == many
                        && bits < Math.pow(2, vessels.size()) && quenched(bits)) {
                    return bits;
                }
            }
        }
        return NONE;
    }

    private boolean quenched(int bits) {
        Evening e = now.copy();
        for (int g = 0; g < vessels.size(); g++) {
            e.contents[g] = (bits & 1 << g) == 0 ? 0 : vessels.get(g).measure();
            e.ages[g] = 0;
        }
        e = behind(e, everybody());
        for (int d = 0; d < guests.size(); d++) {
            if (guests.get(d).kind() != 3 && e.thirsts[d] != 0) return false;
        }
        return true;
    }

    private static List<List<Integer>> orders(List<Integer> of) {
        List<List<Integer>> all = new ArrayList<>();
        if (of.isEmpty()) all.add(new ArrayList<>());
        for (int d : of) {
            List<Integer> others = new ArrayList<>(of);
            others.remove((Integer) d);
            for (List<Integer> rest : orders(others)) {
                rest.add(0, d);
                all.add(rest);
            }
        }
        return all;
    }

    int order(boolean order) {
        int least = Integer.MAX_VALUE;
        int name = Integer.MAX_VALUE;
        for (List<Integer> turns : orders(everybody())) {
            int thirst = Arrays.stream(behind(now, turns).thirsts).sum();
            int figures = 0;
            for (int d : turns) figures = figures * 10 + d + 1;
            if (thirst < least || thirst == least && figures < name) {
                least = thirst;
                name = figures;
            }
        }
        return order ? name : least;
    }

    int hall(int n) {
        if (n < 0 || n > 9) return OUTSIDE;
        Evening e = now.copy();
        for (int i = 0; i < n; i++) hour(e);
        return taxes(e);
    }

    int judge(int n, long row) {
        if (n < 1 || n > 4) return OUTSIDE;
        if (row < 0 || Long.toString(row).length() > 3 * n) return OUTSIDE;
        String figures = String.format("%0" + 3 * n + "d", row);
        Evening e = now.copy();
        for (int i = 0; i < n; i++) {
            int a = figures.charAt(3 * i) - '0';
            int b = figures.charAt(3 * i + 1) - '0';
            int c = figures.charAt(3 * i + 2) - '0';
            int answer = OUTSIDE;
            if (a == 0) answer = poured(e, b, c);
            if (a == 1) answer = drunk(e, b, c);
            if (a == 2) answer = tipped(e, b, c);
            if (a == 3 && b + c == 0) answer = hour(e);
            if (answer < 0) return i;
        }
        return NONE;
    }

    // ---- seen

    int see(int d, int was, int is) {
        if (noDrinker(d)) return UNKNOWN;
        if (was < 0 || was > 9 || is < 0 || is > was) return OUTSIDE;
        if (sights.size() == 6) return FULL;
        sights.add(new Sight(d, was, is));
        return sights.size();
    }

    int unsee() {
        int n = sights.size();
        sights.clear();
        return n;
    }

    int thirsts(int d) {
        if (noDrinker(d)) return UNKNOWN;
        int bits = 1023;
        for (Sight s : sights) {
            for (int t = 0; t <= 9; t++) {
                if (s.drinker() == d && s.was() - drunk(guests.get(d).kind(), t, s.was()) != s.is()) bits &= ~(1 << t);
            }
        }
        return bits;
    }

    // ---- shares, rests, chances

    private static int side(BigInteger upper, BigInteger lower, boolean wantUpper) {
        BigInteger gcd = upper.gcd(lower);
        return (wantUpper ? upper : lower).divide(gcd).intValueExact();
    }

    int share(int d, boolean upper) {
        if (noDrinker(d)) return UNKNOWN;
        int sum = 0;
        int many = 0;
        for (List<Integer> turns : orders(everybody())) {
            List<Integer> come = new ArrayList<>(turns.subList(0, turns.indexOf(d)));
            come.sort(null);
            int ahead = taxes(behind(now, come));
            come.add(d);
            come.sort(null);
            sum += taxes(behind(now, come)) - ahead;
            many++;
        }
        return side(BigInteger.valueOf(sum), BigInteger.valueOf(many), upper);
    }

    private int[] have(int one, int other, int g, int h) {
        Evening e = now.copy();
        int less = g == h ? 1 : 0;
        int has = drunk(e, one, g) - less;
        return new int[] {has, drunk(e, other, h) - less};
    }

    int rests(int one, int other, int what) {
        if (noDrinker(one) || noDrinker(other)) return UNKNOWN;
        if (one == other || what < 0 || what > 1) return OUTSIDE;
        List<Integer> found = new ArrayList<>();
        for (int g : guests.get(one).seats()) {
            for (int h : guests.get(other).seats()) {
                boolean rest = true;
                for (int k : guests.get(one).seats()) rest &= have(one, other, k, h)[0] <= have(one, other, g, h)[0];
                for (int k : guests.get(other).seats()) rest &= have(one, other, g, k)[1] <= have(one, other, g, h)[1];
                if (rest) found.add(10 * g + h);
            }
        }
        if (found.isEmpty()) return NONE;
        return what == 0 ? found.size() : found.get(0);
    }

    int leak(int m, int x, boolean upper) {
        if (m < 0 || m > 60 || x < 0 || x > 10) return OUTSIDE;
        BigInteger[] sum = {BigInteger.ZERO};
        leakOn(now.copy(), 0, m, x, BigInteger.ONE, sum);
        return side(sum[0], BigInteger.TEN.pow(vessels.size()), upper);
    }

    private void leakOn(Evening e, int g, int m, int x, BigInteger weight, BigInteger[] sum) {
        if (g == vessels.size()) {
            if (taxes(behind(e, everybody())) >= m) sum[0] = sum[0].add(weight);
            return;
        }
        if (e.contents[g] == 0) {
            leakOn(e, g + 1, m, x, weight.multiply(BigInteger.TEN), sum);
            return;
        }
        leakOn(e, g + 1, m, x, weight.multiply(BigInteger.valueOf(10 - x)), sum);
        Evening less = e.copy();
        less.contents[g]--;
        leakOn(less, g + 1, m, x, weight.multiply(BigInteger.valueOf(x)), sum);
    }

    long seed(long v) {
        long was = seed;
        seed = v;
        return was;
    }

    int nights(int m) {
        if (m < 1 || m > 30) return OUTSIDE;
        Evening e = now.copy();
        int sum = 0;
        for (int i = 0; i < m; i++) {
            seed = BigInteger.valueOf(seed).multiply(new BigInteger("6364136223846793005"))
                .add(new BigInteger("1442695040888963407")).longValue();
            int lot = new BigInteger(Long.toUnsignedString(seed)).shiftRight(33).mod(BigInteger.valueOf(24)).intValue();
            if (lot < 20) drunk(e, lot / 5, lot % 5);
            else hour(e);
            sum += taxes(e);
        }
        return sum;
    }

    // ---- slots

    int keep(int slot) {
        if (slot != 0 && slot != 1) return UNKNOWN;
        slots[slot] = now.copy();
        return now.hour;
    }

    int again(int slot) {
        if (slot != 0 && slot != 1) return UNKNOWN;
        if (slots[slot] == null) return STATE;
        now = slots[slot].copy();
        acts.clear();
        return now.hour;
    }

    int count(int what) {
        if (what < 0 || what > 7) return OUTSIDE;
        return new int[] {text.length(), vessels.size(), guests.size(), taxes(now), Arrays.stream(now.thirsts).sum(),
            now.hour, acts.size(), sights.size()}[what];
    }
}
