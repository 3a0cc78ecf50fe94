import java.math.BigInteger;
import java.util.ArrayDeque;
import java.util.ArrayList;
import java.util.Arrays;
import java.util.List;

/**
 * The document said again as slowly and plainly as can be: lists, copies of everything, every
 * HABIT weighed driver by driver, streams by trying every set of roads. The class is compared
 * with it on long runs of calls.
 */
final class NaiveTown {
    static final int NONE = -1, BAD = -3, NO = -4, FULL = -5, LARGE = -6, NOTHING = -11, INDEX = -13;

    private static final class Road {
        int kind, from, to, a, b, toll;
        boolean open = true;
        byte[] bytes;
        int[] ints;

        Road twin() {
            Road r = new Road();
            r.kind = kind; r.from = from; r.to = to; r.a = a; r.b = b; r.toll = toll; r.open = open;
            r.bytes = bytes == null ? null : bytes.clone();
            r.ints = ints == null ? null : ints.clone();
            return r;
        }

        int places() {
            return bytes != null ? bytes.length : ints != null ? ints.length : NONE;
        }

        int get(int i) {
            return bytes != null ? bytes[i] : ints[i];
        }

        int takes(int x) {
            if (kind == 0) return a * x + b;
            if (kind == 1) return a * x * x + b;
            if (kind == 2) return b;
            return x - 1 < places() ? get(x - 1) : 1000000;
        }
    }

    private static final class State {
        List<Road> roads = new ArrayList<>();
        List<int[]> drivers = new ArrayList<>();
        List<List<Integer>> choices = new ArrayList<>();

        State twin() {
            State s = new State();
            for (Road r : roads) s.roads.add(r.twin());
            s.drivers.addAll(drivers);
            s.choices.addAll(choices);
            return s;
        }
    }

    private State s = new State();
    private final ArrayDeque<State> kept = new ArrayDeque<>();
    /** The WAYS by drivers, found again after every change. */
    private final List<List<List<Integer>>> found = new ArrayList<>();

    private void keep() {
        found.clear();
        kept.addLast(s.twin());
        if (kept.size() > 8) kept.removeFirst();
    }

    private boolean noRoad(int r) { return r < 0 || r >= s.roads.size(); }
    private boolean noDriver(int d) { return d < 0 || d >= s.drivers.size(); }
    private static boolean out(int v, int least, int most) { return v < least || v > most; }
    private static boolean noPlaces(int from, int to) { return out(from, 0, 5) || out(to, 0, 5) || from == to; }

    private void chooseNone() {
        for (int d = 0; d < s.choices.size(); d++) s.choices.set(d, null);
    }

    // ---- the town

    int road(int kind, int from, int to, int a, int b) {
        if (out(kind, 0, 3) || noPlaces(from, to) || out(a, 0, 12) || out(b, 0, 1000)) return BAD;
        if (s.roads.size() == 10) return FULL;
        keep();
        Road r = new Road();
        r.kind = kind; r.from = from; r.to = to; r.a = a; r.b = b;
        s.roads.add(r);
        chooseNone();
        return s.roads.size() - 1;
    }

    int open(int road, int on) {
        if (noRoad(road) || out(on, 0, 1)) return BAD;
        keep();
        Road r = s.roads.get(road);
        boolean was = r.open;
        r.open = on == 1;
        if (r.open != was) chooseNone();
        return was ? 1 : 0;
    }

    int table(int road, int wide, int n) {
        if (noRoad(road) || out(wide, 0, 1) || out(n, -1, 6)) return BAD;
        keep();
        Road r = s.roads.get(road);
        r.bytes = n >= 0 && wide == 0 ? new byte[n] : null;
        r.ints = n >= 0 && wide == 1 ? new int[n] : null;
        return n;
    }

    int enter(int road, int place, int v) {
        if (noRoad(road)) return BAD;
        Road r = s.roads.get(road);
        if (r.places() == NONE) return NOTHING;
        if (out(place, 0, r.places() - 1)) return INDEX;
        if (out(v, 0, r.bytes != null ? 127 : 100000)) return BAD;
        keep();
        int was = r.get(place);
        if (r.bytes != null) r.bytes[place] = (byte) v; else r.ints[place] = v;
        return was;
    }

    int copy(int from, int to, int many) {
        if (noRoad(from) || noRoad(to)) return BAD;
        Road f = s.roads.get(from), t = s.roads.get(to);
        if (f.places() == NONE || t.places() == NONE) return NOTHING;
        if ((f.bytes == null) != (t.bytes == null)) return NO;
        if (many < 0 || many > f.places() || many > t.places()) return INDEX;
        keep();
        for (int i = 0; i < many; i++) {
            if (f.bytes != null) t.bytes[i] = f.bytes[i]; else t.ints[i] = f.ints[i];
        }
        return many;
    }

    int toll(int road, int v) {
        if (noRoad(road) || out(v, 0, 100000)) return BAD;
        keep();
        int was = s.roads.get(road).toll;
        s.roads.get(road).toll = v;
        return was;
    }

    int about(int road, int what) {
        if (noRoad(road) || out(what, 0, 8)) return BAD;
        Road r = s.roads.get(road);
        int[] all = {r.kind, r.from, r.to, r.a, r.b, r.toll, r.open ? 1 : 0, use(road, s.choices), r.places()};
        return all[what];
    }

    int isOf(int road, int kind) {
        if (noRoad(road) || out(kind, 0, 3)) return BAD;
        int[][] kinds = {{1, 0, 0, 0}, {1, 1, 0, 0}, {1, 1, 1, 0}, {1, 0, 0, 1}};
        return kinds[s.roads.get(road).kind][kind];
    }

    int takes(int road, int x) {
        return noRoad(road) || out(x, 1, 5) ? BAD : s.roads.get(road).takes(x);
    }

    // ---- drivers

    private List<List<Integer>> waysOf(int driver) {
        if (found.isEmpty()) for (int d = 0; d < s.drivers.size(); d++) found.add(findWays(d));
        return found.get(driver);
    }

    private List<List<Integer>> findWays(int driver) {
        List<List<Integer>> found = new ArrayList<>();
        List<List<Integer>> begun = new ArrayList<>();
        begun.add(new ArrayList<>());
        while (!begun.isEmpty()) {
            List<List<Integer>> longer = new ArrayList<>();
            for (List<Integer> row : begun) {
                for (int r = 0; r < s.roads.size(); r++) {
                    List<Integer> next = new ArrayList<>(row);
                    next.add(r);
                    if (!isTrail(driver, next)) continue;
                    if (s.roads.get(r).to == s.drivers.get(driver)[1]) found.add(next); else longer.add(next);
                }
            }
            begun = longer;
        }
        found.sort((x, y) -> {
            for (int i = 0; i < Math.min(x.size(), y.size()); i++) {
                if (!x.get(i).equals(y.get(i))) return x.get(i) - y.get(i);
            }
            return x.size() - y.size();
        });
        return found;
    }

    private boolean isTrail(int driver, List<Integer> row) {
        List<Integer> places = new ArrayList<>();
        places.add(s.drivers.get(driver)[0]);
        for (int r : row) {
            Road road = s.roads.get(r);
            if (!road.open || road.from != places.get(places.size() - 1) || places.contains(road.to)) return false;
            places.add(road.to);
        }
        return true;
    }

    private static int use(int road, List<List<Integer>> choices) {
        int n = 0;
        for (List<Integer> w : choices) if (w != null && w.contains(road)) n++;
        return n;
    }

    private int time(int driver, List<List<Integer>> choices) {
        int t = 0;
        for (int r : choices.get(driver)) t += s.roads.get(r).takes(use(r, choices));
        return t;
    }

    private int cost(int driver, List<List<Integer>> choices) {
        int t = time(driver, choices);
        for (int r : choices.get(driver)) t += s.roads.get(r).toll;
        return t;
    }

    private int costBy(int driver, List<Integer> way, List<List<Integer>> choices) {
        List<List<Integer>> other = new ArrayList<>(choices);
        other.set(driver, way);
        return cost(driver, other);
    }

    private int sum(List<List<Integer>> choices) {
        int t = 0;
        for (int d = 0; d < choices.size(); d++) t += time(d, choices);
        return t;
    }

    private int most(List<List<Integer>> choices) {
        int t = 0;
        for (int d = 0; d < choices.size(); d++) t = Math.max(t, time(d, choices));
        return t;
    }

    private boolean restless(int driver, List<List<Integer>> choices) {
        int cost = cost(driver, choices);
        for (List<Integer> w : waysOf(driver)) if (costBy(driver, w, choices) < cost) return true;
        return false;
    }

    int driver(int from, int to) {
        if (noPlaces(from, to)) return BAD;
        if (s.drivers.size() == 5) return FULL;
        keep();
        s.drivers.add(new int[] {from, to});
        s.choices.add(null);
        return s.drivers.size() - 1;
    }

    int ways(int driver) {
        return noDriver(driver) ? BAD : waysOf(driver).size();
    }

    int way(int driver, int k, int i) {
        if (noDriver(driver) || out(k, 0, waysOf(driver).size() - 1) || i < 0) return BAD;
        List<Integer> w = waysOf(driver).get(k);
        return i < w.size() ? w.get(i) : NONE;
    }

    private int number(int driver) {
        List<Integer> w = s.choices.get(driver);
        return w == null ? NONE : waysOf(driver).indexOf(w);
    }

    int choose(int driver, int k) {
        if (noDriver(driver) || out(k, -1, waysOf(driver).size() - 1)) return BAD;
        keep();
        int was = number(driver);
        s.choices.set(driver, k == -1 ? null : waysOf(driver).get(k));
        return was;
    }

    int told(int driver, int what) {
        if (noDriver(driver) || out(what, 0, 4)) return BAD;
        boolean none = s.choices.get(driver) == null;
        if (what == 0) return number(driver);
        if (what == 1) return none ? NONE : time(driver, s.choices);
        if (what == 2) return none ? NONE : cost(driver, s.choices);
        return s.drivers.get(driver)[what - 3];
    }

    private boolean atRest(List<List<Integer>> choices) {
        for (int d = 0; d < choices.size(); d++) if (restless(d, choices)) return false;
        return true;
    }

    int now(int what) {
        if (out(what, 0, 2)) return BAD;
        if (s.choices.contains(null)) return NO;
        return what == 0 ? sum(s.choices) : what == 1 ? most(s.choices) : atRest(s.choices) ? 1 : 0;
    }

    int store() {
        int t = 0;
        for (int r = 0; r < s.roads.size(); r++) {
            for (int x = 1; x <= use(r, s.choices); x++) t += s.roads.get(r).takes(x) + s.roads.get(r).toll;
        }
        return t;
    }

    int reply(int driver) {
        if (noDriver(driver)) return BAD;
        List<List<Integer>> ways = waysOf(driver);
        if (ways.isEmpty()) return NO;
        int best = 0;
        for (int k = 1; k < ways.size(); k++) {
            if (costBy(driver, ways.get(k), s.choices) < costBy(driver, ways.get(best), s.choices)) best = k;
        }
        return best;
    }

    // ---- habits

    private List<List<List<Integer>>> allHabits() {
        List<List<List<Integer>>> all = new ArrayList<>();
        all.add(new ArrayList<>());
        for (int d = 0; d < s.drivers.size(); d++) {
            List<List<List<Integer>>> more = new ArrayList<>();
            for (List<List<Integer>> begun : all) {
                for (List<Integer> w : waysOf(d)) {
                    List<List<Integer>> one = new ArrayList<>(begun);
                    one.add(w);
                    more.add(one);
                }
            }
            all = more;
        }
        return all;
    }

    int habits() {
        long n = 1;
        for (int d = 0; d < s.drivers.size(); d++) n *= waysOf(d).size();
        return n > 2000 ? LARGE : n == 0 ? NO : (int) n;
    }

    int habit(int k) {
        int n = habits();
        if (n < 0) return n;
        if (out(k, 0, n - 1)) return BAD;
        keep();
        s.choices = new ArrayList<>(allHabits().get(k));
        return 0;
    }

    private List<List<Integer>> bestHabit() {
        List<List<Integer>> best = null;
        for (List<List<Integer>> h : allHabits()) if (best == null || sum(h) < sum(best)) best = h;
        return new ArrayList<>(best);
    }

    private List<List<List<Integer>>> allRests() {
        List<List<List<Integer>>> found = new ArrayList<>();
        for (List<List<Integer>> h : allHabits()) if (atRest(h)) found.add(h);
        return found;
    }

    int best() {
        int n = habits();
        if (n < 0) return n;
        keep();
        s.choices = bestHabit();
        return sum(s.choices);
    }

    int rests() {
        int n = habits();
        return n < 0 ? n : allRests().size();
    }

    int rest(int k) {
        int n = habits();
        if (n < 0) return n;
        if (k < 0) return BAD;
        keep();
        List<List<List<Integer>>> all = allRests();
        if (k >= all.size()) return NONE;
        s.choices = new ArrayList<>(all.get(k));
        return sum(s.choices);
    }

    private int worstRest() {
        int worst = -1;
        for (List<List<Integer>> h : allRests()) worst = Math.max(worst, sum(h));
        return worst;
    }

    int extreme(int what) {
        int n = habits();
        if (n < 0) return n;
        if (out(what, 0, 2)) return BAD;
        if (what == 1) return worstRest();
        int least = Integer.MAX_VALUE;
        if (what == 0) for (List<List<Integer>> h : allRests()) least = Math.min(least, sum(h));
        if (what == 2) for (List<List<Integer>> h : allHabits()) least = Math.min(least, most(h));
        return least;
    }

    int price(int part) {
        int n = habits();
        if (n < 0) return n;
        if (out(part, 0, 1)) return BAD;
        int above = worstRest(), below = sum(bestHabit());
        if (below == 0) return above == 0 ? 1 : NONE;
        int g = BigInteger.valueOf(above).gcd(BigInteger.valueOf(below)).intValue();
        return part == 0 ? above / g : below / g;
    }

    int harms() {
        int n = habits();
        if (n < 0) return n;
        int worst = worstRest(), bits = 0;
        for (int r = 0; r < s.roads.size(); r++) {
            if (!s.roads.get(r).open) continue;
            s.roads.get(r).open = false;
            found.clear();
            if (habits() > 0 && worstRest() < worst) bits += 1 << r;
            s.roads.get(r).open = true;
            found.clear();
        }
        return bits;
    }

    int agrees() {
        int n = habits();
        if (n < 0) return n;
        if (s.choices.contains(null)) return NO;
        int least = NONE;
        for (List<List<Integer>> h : allHabits()) {
            // whoever gains by h may be of the heap, whoever goes another way must be
            int gains = 0, moves = 0;
            for (int d = 0; d < h.size(); d++) {
                if (cost(d, h) < cost(d, s.choices)) gains |= 1 << d;
                if (!h.get(d).equals(s.choices.get(d))) moves |= 1 << d;
            }
            if (moves != 0 && (moves & ~gains) == 0 && (least == NONE || moves < least)) least = moves;
        }
        return least;
    }

    // ---- what drivers do

    int better(int n) {
        if (out(n, 1, 200)) return BAD;
        if (s.choices.contains(null)) return NO;
        keep();
        int did = 0;
        step:
        while (did < n) {
            for (int d = 0; d < s.choices.size(); d++) {
                if (restless(d, s.choices)) {
                    s.choices.set(d, waysOf(d).get(reply(d)));
                    did++;
                    continue step;
                }
            }
            break;
        }
        return did;
    }

    int queue() {
        for (int d = 0; d < s.drivers.size(); d++) if (waysOf(d).isEmpty()) return NO;
        keep();
        chooseNone();
        for (int d = 0; d < s.drivers.size(); d++) s.choices.set(d, waysOf(d).get(reply(d)));
        return sum(s.choices);
    }

    int teach() {
        int n = habits();
        if (n < 0) return n;
        keep();
        s.choices = bestHabit();
        for (int r = 0; r < s.roads.size(); r++) {
            int x = use(r, s.choices);
            Road road = s.roads.get(r);
            road.toll = x < 2 ? 0 : Math.max(0, Math.min(100000, (x - 1) * (road.takes(x) - road.takes(x - 1))));
        }
        return atRest(s.choices) ? 1 : 0;
    }

    // ---- streams

    private static final class Ratio {
        final BigInteger above, below;

        Ratio(BigInteger a, BigInteger b) {
            if (b.signum() < 0) { a = a.negate(); b = b.negate(); }
            BigInteger g = a.gcd(b);
            above = a.divide(g);
            below = b.divide(g);
        }

        static Ratio of(long v) { return new Ratio(BigInteger.valueOf(v), BigInteger.ONE); }
        Ratio plus(Ratio o) { return new Ratio(above.multiply(o.below).add(o.above.multiply(below)), below.multiply(o.below)); }
        Ratio times(Ratio o) { return new Ratio(above.multiply(o.above), below.multiply(o.below)); }
        Ratio minus(Ratio o) { return plus(o.times(of(-1))); }
        Ratio by(Ratio o) { return times(new Ratio(o.below, o.above)); }
        int sign() { return above.signum(); }
        int against(Ratio o) { return minus(o).sign(); }
        long part(int p) { return (p == 0 ? above : below).longValueExact(); }
    }

    private Ratio[] shares;

    /** Tries every set of roads, with a flat one or none, till what it asks for is at rest. */
    private Ratio flow(int from, int to, int q, int kind) {
        List<Integer> slopes = new ArrayList<>();
        List<Integer> rising = new ArrayList<>();
        int flat = NONE;
        for (int i = 0; i < s.roads.size(); i++) {
            Road r = s.roads.get(i);
            if (!r.open || r.from != from || r.to != to || r.kind == 1 || r.kind == 3) continue;
            if (r.kind == 2 || r.a == 0) {
                if (flat == NONE || r.b < s.roads.get(flat).b) flat = i;
            } else {
                rising.add(i);
                slopes.add(r.a * (kind + 1));
            }
        }
        if (flat == NONE && rising.isEmpty()) return null;
        for (int set = 0; set < 1 << rising.size(); set++) {
            for (int withFlat = 0; withFlat < 2; withFlat++) {
                if (withFlat == 1 && flat == NONE || withFlat == 0 && set == 0) continue;
                Ratio level = tryOut(set, withFlat == 1, rising, slopes, flat, q);
                if (level != null) return level;
            }
        }
        throw new IllegalStateException("no rest of a stream");
    }

    private Ratio tryOut(int set, boolean withFlat, List<Integer> rising, List<Integer> slopes, int flat, int q) {
        Ratio level;
        if (withFlat) {
            level = Ratio.of(s.roads.get(flat).b);
        } else {
            Ratio above = Ratio.of(q), below = Ratio.of(0);
            for (int i = 0; i < rising.size(); i++) {
                if ((set >> i & 1) == 0) continue;
                Ratio slope = Ratio.of(slopes.get(i));
                above = above.plus(Ratio.of(s.roads.get(rising.get(i)).b).by(slope));
                below = below.plus(Ratio.of(1).by(slope));
            }
            level = above.by(below);
        }
        shares = new Ratio[10];
        Arrays.fill(shares, Ratio.of(0));
        Ratio left = Ratio.of(q);
        for (int i = 0; i < rising.size(); i++) {
            Ratio lift = level.minus(Ratio.of(s.roads.get(rising.get(i)).b));
            boolean in = (set >> i & 1) == 1;
            if (in && lift.sign() <= 0 || !in && lift.sign() > 0) return null;
            if (in) {
                shares[rising.get(i)] = lift.by(Ratio.of(slopes.get(i)));
                left = left.minus(shares[rising.get(i)]);
            }
        }
        if (flat != NONE && level.against(Ratio.of(s.roads.get(flat).b)) > 0) return null;
        if (left.sign() < 0 || !withFlat && left.sign() != 0) return null;
        if (withFlat) shares[flat] = left;
        return level;
    }

    long level(int from, int to, int q, int kind, int part) {
        if (noPlaces(from, to) || out(q, 1, 1000) || out(kind, 0, 1) || out(part, 0, 1)) return BAD;
        Ratio level = flow(from, to, q, kind);
        return level == null ? NO : level.part(part);
    }

    long share(int road, int q, int kind, int part) {
        if (noRoad(road) || out(q, 1, 1000) || out(kind, 0, 1) || out(part, 0, 1)) return BAD;
        Ratio level = flow(s.roads.get(road).from, s.roads.get(road).to, q, kind);
        return level == null ? NO : shares[road].part(part);
    }

    int undo() {
        if (kept.isEmpty()) return NO;
        s = kept.removeLast();
        found.clear();
        return kept.size();
    }

    int count(int what) {
        int open = 0, tables = 0, chosen = 0;
        for (Road r : s.roads) {
            if (r.open) open++;
            if (r.places() != NONE) tables++;
        }
        for (List<Integer> w : s.choices) if (w != null) chosen++;
        int[] all = {s.roads.size(), s.drivers.size(), open, tables, chosen, kept.size()};
        return out(what, 0, 5) ? BAD : all[what];
    }
}
