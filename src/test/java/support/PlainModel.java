import java.util.ArrayDeque;
import java.util.ArrayList;
import java.util.Deque;
import java.util.HashMap;
import java.util.HashSet;
import java.util.List;
import java.util.Map;
import java.util.Set;

/**
 * The document once more, written slowly and another way (angles as doubles, states as texts,
 * nothing kept between calls), so that a slip in FaceLetters is not made here too.
 */
final class PlainModel {
    static final int NONE = -1, UNKNOWN = -1000000001, OUTSIDE = -1000000002, NOT = -1000000003, FULL = -1000000004;

    static final class Spot {
        final int x, y;
        final boolean awake;

        Spot(int x, int y, boolean awake) {
            this.x = x;
            this.y = y;
            this.awake = awake;
        }
    }

    static final class State {
        final List<Spot> spots;
        final int reach, rule, seed;

        State(List<Spot> spots, int reach, int rule, int seed) {
            this.spots = List.copyOf(spots);
            this.reach = reach;
            this.rule = rule;
            this.seed = seed;
        }
    }

    static final class Trail {
        final List<Integer> path = new ArrayList<>();
        int astray, changes, round;
        boolean lost;
    }

    private State now = new State(List.of(), 400, 0, 0);
    private final List<State> history = new ArrayList<>();
    private final List<int[]> book = new ArrayList<>();
    private final Map<Integer, State> images = new HashMap<>();

    private int n() { return now.spots.size(); }

    private boolean no(int v) { return v < 0 || v >= n(); }

    private boolean asleep(int v) { return !now.spots.get(v).awake; }

    private int dist(int u, int v) {
        Spot a = now.spots.get(u), b = now.spots.get(v);
        return (int) (Math.pow(a.x - b.x, 2) + Math.pow(a.y - b.y, 2));
    }

    private boolean linked(int u, int v) {
        return u != v && !asleep(u) && !asleep(v) && dist(u, v) <= now.reach;
    }

    private boolean thin(int u, int v) {
        if (!linked(u, v)) return false;
        for (int w = 0; w < n(); w++) {
            if (w == u || w == v || asleep(w)) continue;
            if (now.rule == 0 && dist(u, w) + dist(w, v) <= dist(u, v)) return false;
            if (now.rule == 1 && Math.max(dist(u, w), dist(w, v)) < dist(u, v)) return false;
        }
        return true;
    }

    private double angle(int u, int v) {
        Spot a = now.spots.get(u), b = now.spots.get(v);
        return Math.atan2(b.y - a.y, b.x - a.x);
    }

    /** Directions on this grid differ by more than 0.0001, so a nearly full turn is no turn. */
    private double turn(int u, int from, int to) {
        double turn = angle(u, to) - angle(u, from);
        while (turn < -1e-9) turn += 2 * Math.PI;
        return turn > 2 * Math.PI - 1e-9 ? 0 : turn;
    }

    private int first(int u, int from, boolean mayBeFrom) {
        int best = NONE;
        for (int w = 0; w < n(); w++) {
            if (!thin(u, w) || w == from && !mayBeFrom) continue;
            if (best == NONE || turn(u, from, w) < turn(u, from, best) - 1e-9
                || Math.abs(turn(u, from, w) - turn(u, from, best)) <= 1e-9 && dist(u, w) < dist(u, best)) best = w;
        }
        return best;
    }

    private int firstOrBack(int u, int from) {
        int other = first(u, from, false);
        return other != NONE ? other : thin(u, from) ? from : NONE;
    }

    private boolean left(int a, int b, int c) {
        Spot p = now.spots.get(a), q = now.spots.get(b), r = now.spots.get(c);
        return (q.x - p.x) * (r.y - p.y) - (q.y - p.y) * (r.x - p.x) >= 0;
    }

    /** The share as c and d in lowest terms, by Cramer's rule. */
    private long[] share(int entry, int t, int u, int next) {
        Spot e = now.spots.get(entry), a = now.spots.get(t), p = now.spots.get(u), q = now.spots.get(next);
        long a1 = a.x - e.x, b1 = p.x - q.x, c1 = p.x - e.x;
        long a2 = a.y - e.y, b2 = p.y - q.y, c2 = p.y - e.y;
        long d = a1 * b2 - a2 * b1, c = c1 * b2 - c2 * b1;
        if (d < 0) {
            d = -d;
            c = -c;
        }
        long g = java.math.BigInteger.valueOf(c).gcd(java.math.BigInteger.valueOf(d)).longValue();
        return new long[] {c / g, d / g};
    }

    private Trail trail(int s, int t) {
        Trail trail = new Trail();
        trail.path.add(s);
        Set<String> states = new HashSet<>();
        int u = s, entry = NONE, next = NONE;
        long c = 0, d = 1;
        while (u != t) {
            if (trail.path.size() > 200) {
                trail.lost = true;
                return trail;
            }
            if (entry == NONE) {
                int best = NONE;
                for (int w = n() - 1; w >= 0; w--) {
                    if (linked(u, w) && dist(w, t) < dist(u, t) && (best == NONE || dist(w, t) <= dist(best, t))) best = w;
                }
                if (best != NONE) {
                    u = best;
                    trail.path.add(u);
                    continue;
                }
                trail.astray++;
                entry = u;
                c = 0;
                d = 1;
                next = first(u, t, true);
                if (next == NONE) {
                    trail.lost = true;
                    return trail;
                }
            }
            if (!states.add(u + " " + entry + " " + c + "/" + d + " " + next)) {
                trail.lost = true;
                return trail;
            }
            if (left(entry, t, u) != left(entry, t, next)) {
                long[] met = share(entry, t, u, next);
                if (met[0] * d > c * met[1] && met[0] < met[1]) {
                    c = met[0];
                    d = met[1];
                    next = firstOrBack(u, next);
                    trail.changes++;
                    continue;
                }
            }
            int from = u;
            u = next;
            trail.path.add(u);
            trail.round++;
            if (dist(u, t) < dist(entry, t)) entry = NONE;
            else next = firstOrBack(u, from);
        }
        return trail;
    }

    private List<List<String>> faces() {
        List<List<String>> faces = new ArrayList<>();
        Set<String> done = new HashSet<>();
        for (int u = 0; u < n(); u++) {
            for (int v = 0; v < n(); v++) {
                if (!thin(u, v) || done.contains(u + ">" + v)) continue;
                List<String> face = new ArrayList<>();
                int a = u, b = v;
                while (done.add(a + ">" + b)) {
                    face.add(a + ">" + b);
                    int c = firstOrBack(b, a);
                    a = b;
                    b = c;
                }
                faces.add(face);
            }
        }
        return faces;
    }

    private int hopsOf(int s, int t) {
        Map<Integer, Integer> far = new HashMap<>();
        Deque<Integer> queue = new ArrayDeque<>();
        far.put(s, 0);
        queue.add(s);
        while (!queue.isEmpty()) {
            int u = queue.remove();
            for (int w = 0; w < n(); w++) {
                if (linked(u, w) && !far.containsKey(w)) {
                    far.put(w, far.get(u) + 1);
                    queue.add(w);
                }
            }
        }
        return far.getOrDefault(t, NONE);
    }

    private int cross(Spot p, Spot q, Spot r) {
        return Integer.signum((q.x - p.x) * (r.y - p.y) - (q.y - p.y) * (r.x - p.x));
    }

    private boolean on(Spot p, Spot q, Spot r) {
        return cross(p, q, r) == 0 && (r.x - p.x) * (r.x - q.x) <= 0 && (r.y - p.y) * (r.y - q.y) <= 0;
    }

    private boolean crosses(int a, int b, int c, int d) {
        Spot p = now.spots.get(a), q = now.spots.get(b), r = now.spots.get(c), s = now.spots.get(d);
        if (on(p, q, r) || on(p, q, s) || on(r, s, p) || on(r, s, q)) return true;
        return cross(p, q, r) * cross(p, q, s) < 0 && cross(r, s, p) * cross(r, s, q) < 0;
    }

    private int crossings() {
        List<int[]> links = new ArrayList<>();
        for (int u = 0; u < n(); u++) for (int v = u + 1; v < n(); v++) if (linked(u, v)) links.add(new int[] {u, v});
        int count = 0;
        for (int i = 0; i < links.size(); i++) {
            for (int j = i + 1; j < links.size(); j++) {
                int[] a = links.get(i), b = links.get(j);
                if (Set.copyOf(List.of(a[0], a[1])).contains(b[0]) || a[0] == b[1] || a[1] == b[1]) continue;
                if (crosses(a[0], a[1], b[0], b[1])) count++;
            }
        }
        return count;
    }

    private int parts() {
        int parts = 0;
        for (int v = 0; v < n(); v++) {
            boolean least = !asleep(v);
            for (int w = 0; w < v; w++) if (!asleep(w) && hopsOf(v, w) != NONE) least = false;
            if (least) parts++;
        }
        return parts;
    }

    private int pairs(boolean onlyThin) {
        int count = 0;
        for (int u = 0; u < n(); u++) for (int v = u + 1; v < n(); v++) if (onlyThin ? thin(u, v) : linked(u, v)) count++;
        return count;
    }

    private int ending(int how) {
        int count = 0;
        for (int s = 0; s < n(); s++) {
            for (int t = 0; t < n(); t++) if (s != t && !asleep(s) && !asleep(t) && way(s, t, 0) == how) count++;
        }
        return count;
    }

    private int wrong() {
        for (int i = 0; i < book.size(); i++) {
            int[] e = book.get(i);
            if (no(e[0]) || no(e[1]) || asleep(e[0]) || asleep(e[1])) return i;
            Trail trail = trail(e[0], e[1]);
            if (e[2] != (trail.lost ? NONE : trail.path.size() - 1)) return i;
        }
        return NONE;
    }

    int told(int what) {
        switch (what) {
            case 0: return n();
            case 1: return (int) now.spots.stream().filter(s -> s.awake).count();
            case 2: return now.reach;
            case 3: return now.rule;
            case 4: return pairs(false);
            case 5: return pairs(true);
            case 6: return faces().size();
            case 7: return parts();
            case 8: return crossings();
            case 9: return faces().stream().mapToInt(List::size).max().orElse(0);
            case 10: return ending(0);
            case 11: return ending(2);
            case 12: return book.size();
            case 13: return wrong();
            case 14: return history.size();
            case 15: return now.seed;
            default: return OUTSIDE;
        }
    }

    int at(int v, int what) {
        if (no(v)) return UNKNOWN;
        int set = 0;
        switch (what) {
            case 0: return now.spots.get(v).x;
            case 1: return now.spots.get(v).y;
            case 2: return asleep(v) ? 0 : 1;
            case 3:
                for (int w = 0; w < n(); w++) if (linked(v, w)) set += 1 << w;
                return set;
            case 4:
                for (int w = 0; w < n(); w++) if (thin(v, w)) set += 1 << w;
                return set;
            case 5:
                for (int t = 0; t < n(); t++) if (t != v && !asleep(t) && !asleep(v) && !goesGreedy(v, t)) set += 1 << t;
                return set;
            default: return OUTSIDE;
        }
    }

    private boolean goesGreedy(int u, int t) {
        for (int w = 0; w < n(); w++) if (linked(u, w) && dist(w, t) < dist(u, t)) return true;
        return false;
    }

    int far(int u, int v) { return no(u) || no(v) ? UNKNOWN : dist(u, v); }

    int turning(int u, int v) { return no(u) || no(v) || u == v ? UNKNOWN : firstOrBack(u, v); }

    int face(int u, int v) {
        if (no(u) || no(v) || u == v) return UNKNOWN;
        for (List<String> face : faces()) if (face.contains(u + ">" + v)) return face.size();
        return NONE;
    }

    int way(int s, int t, int what) {
        if (no(s) || no(t)) return UNKNOWN;
        if (what < 0 || what > 5) return OUTSIDE;
        if (asleep(s) || asleep(t)) return NOT;
        Trail trail = trail(s, t);
        int[] answers = {trail.lost ? 2 : trail.astray > 0 ? 1 : 0, trail.path.size() - 1, trail.astray, trail.changes,
            trail.round, trail.path.stream().distinct().mapToInt(v -> 1 << v).sum()};
        return answers[what];
    }

    int step(int s, int t, int i) {
        if (no(s) || no(t)) return UNKNOWN;
        if (i < 0) return OUTSIDE;
        if (asleep(s) || asleep(t)) return NOT;
        List<Integer> path = trail(s, t).path;
        return i < path.size() ? path.get(i) : NONE;
    }

    int hops(int s, int t) {
        if (no(s) || no(t)) return UNKNOWN;
        return asleep(s) || asleep(t) ? NOT : hopsOf(s, t);
    }

    private void become(List<Spot> spots, int reach, int rule) {
        history.add(now);
        if (history.size() > 16) history.remove(0);
        now = new State(spots, reach, rule, now.seed);
    }

    private int who(int x, int y) {
        for (int v = 0; v < n(); v++) if (now.spots.get(v).x == x && now.spots.get(v).y == y) return v;
        return NONE;
    }

    private boolean off(int x, int y) { return Math.min(x, y) < 0 || Math.max(x, y) > 63; }

    private List<Spot> with(int v, Spot spot) {
        List<Spot> spots = new ArrayList<>(now.spots);
        if (v == n()) spots.add(spot);
        else spots.set(v, spot);
        return spots;
    }

    int node(int x, int y) {
        if (off(x, y)) return OUTSIDE;
        if (n() == 10) return FULL;
        if (who(x, y) != NONE) return NOT;
        become(with(n(), new Spot(x, y, true)), now.reach, now.rule);
        return n() - 1;
    }

    int move(int v, int x, int y) {
        if (no(v)) return UNKNOWN;
        if (off(x, y)) return OUTSIDE;
        if (who(x, y) != NONE && who(x, y) != v) return NOT;
        Spot was = now.spots.get(v);
        become(with(v, new Spot(x, y, was.awake)), now.reach, now.rule);
        return (was.x - x) * (was.x - x) + (was.y - y) * (was.y - y);
    }

    int wake(int v, boolean is) {
        if (no(v)) return UNKNOWN;
        Spot was = now.spots.get(v);
        become(with(v, new Spot(was.x, was.y, is)), now.reach, now.rule);
        return told(1);
    }

    int take(int v) {
        if (no(v)) return UNKNOWN;
        List<Spot> spots = new ArrayList<>(now.spots);
        spots.remove(v);
        become(spots, now.reach, now.rule);
        return n();
    }

    int reach(int v) {
        if (v < 1 || v > 8000) return OUTSIDE;
        int was = now.reach;
        become(now.spots, v, now.rule);
        return was;
    }

    int rule(int v) {
        if (v != 0 && v != 1) return OUTSIDE;
        int was = now.rule;
        become(now.spots, now.reach, v);
        return was;
    }

    private int draw(int of) {
        java.math.BigInteger next = java.math.BigInteger.valueOf(now.seed)
            .multiply(java.math.BigInteger.valueOf(1103515245)).add(java.math.BigInteger.valueOf(12345))
            .mod(java.math.BigInteger.TWO.pow(31));
        seed(next.intValueExact());
        return now.seed / 65536 % of;
    }

    int drift(int n) {
        if (n < 1 || n > 10) return OUTSIDE;
        for (int i = 0; i < n && n() < 10; i++) {
            int x = draw(64), y = draw(64);
            node(x, y);
        }
        return n();
    }

    int undo(int n) {
        if (n < 1 || n > 16) return OUTSIDE;
        if (n > history.size()) return NOT;
        for (int i = 0; i < n; i++) {
            State was = history.remove(history.size() - 1);
            now = new State(was.spots, was.reach, was.rule, now.seed);
        }
        return history.size();
    }

    int write(int s, int t, int v) {
        if (no(s) || no(t)) return UNKNOWN;
        if (book.size() == 20) return FULL;
        book.add(new int[] {s, t, v});
        return book.size();
    }

    int tear() {
        int had = book.size();
        book.clear();
        return had;
    }

    int seed(int v) {
        if (v < 0) return OUTSIDE;
        int was = now.seed;
        now = new State(now.spots, now.reach, now.rule, v);
        return was;
    }

    int keep(int i) {
        if (i != 0 && i != 1) return UNKNOWN;
        images.put(i, now);
        history.clear();
        return 1;
    }

    int goBack(int i) {
        if (i != 0 && i != 1) return UNKNOWN;
        if (!images.containsKey(i)) return NOT;
        now = images.get(i);
        history.clear();
        return 1;
    }
}
