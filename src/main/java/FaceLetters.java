import java.util.Arrays;

/** Letters that find their way by places alone; see README.md. */
public final class FaceLetters {
    public static final int NONE = -1, UNKNOWN = -1000000001, OUTSIDE = -1000000002, NOT = -1000000003, FULL = -1000000004;

    private static final int MOST_NODES = 10;
    private static final int SIDE = 64;
    private static final int FIRST_REACH = 400;
    private static final int MOST_REACH = 8000;
    private static final int MOST_DRAWS = 10;
    private static final int MOST_STEPS = 200;
    // A turn is a step, a change of faces or a going astray. Between two steps
    // SHARE grows with each change, over at most nine links: far fewer turns.
    private static final int MOST_TURNS = 10000;
    private static final int MOST_WAYS = MOST_NODES * (MOST_NODES - 1);
    private static final int MOST_UNDONE = 16;
    private static final int MOST_ENTRIES = 20;
    private static final int MOST_IMAGES = 2;
    private static final int LAST_OF_NODE = 5;
    private static final int LAST_OF_WAY = 5;
    private static final int CAME_GREEDY = 0;
    private static final int CAME_OTHERWISE = 1;
    private static final int WAS_LOST = 2;

    private final Ground ground;
    private final Net net;
    private final Letter letter;
    private final Book book;
    private final Past past;
    private final Ground[] images;
    private int kept;

    public FaceLetters() {
        ground = new Ground();
        net = new Net(ground);
        letter = new Letter(ground, net);
        book = new Book();
        past = new Past();
        images = new Ground[MOST_IMAGES];
        for (int i = 0; i < MOST_IMAGES; i++) {
            images[i] = new Ground();
        }
        kept = 0;
    }

    // ---- the net

    public int told(int what) {
        switch (what) {
            case 0: return ground.count;
            case 1: return Integer.bitCount(ground.awake);
            case 2: return ground.reach;
            case 3: return ground.rule;
            case 4: return net.countPairs(net.linked);
            case 5: return net.countPairs(net.thin);
            case 6: return net.countFaces();
            case 7: return net.countParts();
            case 8: return net.countCrossings();
            case 9: return net.greatestFace();
            case 10: return letter.countEnding(CAME_GREEDY);
            case 11: return letter.countEnding(WAS_LOST);
            case 12: return book.count;
            case 13: return book.firstWrong(ground, letter);
            case 14: return past.depth;
            case 15: return ground.seed;
            default: return OUTSIDE;
        }
    }

    public int at(int v, int what) {
        if (!ground.has(v)) return UNKNOWN;
        if (what < 0 || what > LAST_OF_NODE) return OUTSIDE;
        switch (what) {
            case 0: return ground.x[v];
            case 1: return ground.y[v];
            case 2: return ground.isAwake(v) ? 1 : 0;
            case 3: return net.linked[v];
            case 4: return net.thin[v];
            default: return net.aimsAstray(v);
        }
    }

    public int far(int u, int v) {
        if (!ground.has(u) || !ground.has(v)) return UNKNOWN;
        return ground.apart(u, v);
    }

    public int turning(int u, int v) {
        if (!areTwo(u, v)) return UNKNOWN;
        return net.turnFrom(u, v);
    }

    public int face(int u, int v) {
        if (!areTwo(u, v)) return UNKNOWN;
        if (!holds(net.thin[u], v)) return NONE;
        return net.faceLength(u, v);
    }

    public int way(int s, int t, int what) {
        if (!ground.has(s) || !ground.has(t)) return UNKNOWN;
        if (what < 0 || what > LAST_OF_WAY) return OUTSIDE;
        if (!ground.isAwake(s) || !ground.isAwake(t)) return NOT;
        letter.walk(s, t);
        switch (what) {
            case 0: return letter.howItEnded();
            case 1: return letter.steps;
            case 2: return letter.timesAstray;
            case 3: return letter.changes;
            case 4: return letter.stepsRound;
            default: return letter.stood;
        }
    }

    public int step(int s, int t, int i) {
        if (!ground.has(s) || !ground.has(t)) return UNKNOWN;
        if (i < 0) return OUTSIDE;
        if (!ground.isAwake(s) || !ground.isAwake(t)) return NOT;
        letter.walk(s, t);
        return letter.nodeBehind(i);
    }

    public int hops(int s, int t) {
        if (!ground.has(s) || !ground.has(t)) return UNKNOWN;
        if (!ground.isAwake(s) || !ground.isAwake(t)) return NOT;
        return net.fewestLinks(s, t);
    }

    // ---- deeds

    public int node(int x, int y) {
        if (!isPlace(x, y)) return OUTSIDE;
        if (ground.count >= MOST_NODES) return FULL;
        if (ground.whoStandsAt(x, y) != NONE) return NOT;
        past.remember(ground);
        ground.add(x, y);
        net.follow();
        return ground.count - 1;
    }

    public int move(int v, int x, int y) {
        if (!ground.has(v)) return UNKNOWN;
        if (!isPlace(x, y)) return OUTSIDE;
        int there = ground.whoStandsAt(x, y);
        if (there != NONE && there != v) return NOT;
        past.remember(ground);
        int gone = ground.put(v, x, y);
        net.follow();
        return gone;
    }

    public int wake(int v, boolean is) {
        if (!ground.has(v)) return UNKNOWN;
        past.remember(ground);
        ground.setAwake(v, is);
        net.follow();
        return Integer.bitCount(ground.awake);
    }

    public int take(int v) {
        if (!ground.has(v)) return UNKNOWN;
        past.remember(ground);
        ground.remove(v);
        net.follow();
        return ground.count;
    }

    public int reach(int v) {
        if (v < 1 || v > MOST_REACH) return OUTSIDE;
        int was = ground.reach;
        past.remember(ground);
        ground.reach = v;
        net.follow();
        return was;
    }

    public int rule(int v) {
        if (v < 0 || v > 1) return OUTSIDE;
        int was = ground.rule;
        past.remember(ground);
        ground.rule = v;
        net.follow();
        return was;
    }

    public int drift(int n) {
        if (n < 1 || n > MOST_DRAWS) return OUTSIDE;
        for (int i = 0; i < n && ground.count < MOST_NODES; i++) {
            int x = ground.drawPlace();
            int y = ground.drawPlace();
            if (ground.whoStandsAt(x, y) == NONE) {
                past.remember(ground);
                ground.add(x, y);
            }
        }
        net.follow();
        return ground.count;
    }

    public int undo(int n) {
        if (n < 1 || n > MOST_UNDONE) return OUTSIDE;
        if (n > past.depth) return NOT;
        past.giveBack(n, ground);
        net.follow();
        return past.depth;
    }

    // ---- the book

    public int write(int s, int t, int v) {
        if (!ground.has(s) || !ground.has(t)) return UNKNOWN;
        if (book.count >= MOST_ENTRIES) return FULL;
        book.enter(s, t, v);
        return book.count;
    }

    public int tear() {
        int had = book.count;
        book.count = 0;
        return had;
    }

    // ---- images

    public int seed(int v) {
        if (v < 0) return OUTSIDE;
        int was = ground.seed;
        ground.seed = v;
        return was;
    }

    public int keep(int i) {
        if (i < 0 || i >= MOST_IMAGES) return UNKNOWN;
        images[i].copyNet(ground);
        images[i].seed = ground.seed;
        kept |= 1 << i;
        past.depth = 0;
        return 1;
    }

    public int goBack(int i) {
        if (i < 0 || i >= MOST_IMAGES) return UNKNOWN;
        if (!holds(kept, i)) return NOT;
        ground.copyNet(images[i]);
        ground.seed = images[i].seed;
        past.depth = 0;
        net.follow();
        return 1;
    }

    private boolean areTwo(int u, int v) {
        return u != v && ground.has(u) && ground.has(v);
    }

    private static boolean isPlace(int x, int y) {
        return x >= 0 && x < SIDE && y >= 0 && y < SIDE;
    }

    private static boolean holds(int set, int v) {
        return (set >> v & 1) == 1;
    }

    /** The nodes with REACH, RULE and THE SEED: all that an image keeps. */
    private static final class Ground {
        private final int[] x;
        private final int[] y;
        private int count;
        private int awake;
        private int reach;
        private int rule;
        private int seed;

        private Ground() {
            x = new int[MOST_NODES];
            y = new int[MOST_NODES];
            count = 0;
            awake = 0;
            reach = FIRST_REACH;
            rule = 0;
            seed = 0;
        }

        private boolean has(int v) {
            return v >= 0 && v < count;
        }

        private boolean isAwake(int v) {
            return has(v) && holds(awake, v);
        }

        private int whoStandsAt(int px, int py) {
            for (int v = 0; v < count; v++) {
                if (x[v] == px && y[v] == py) return v;
            }
            return NONE;
        }

        private int apart(int u, int v) {
            int dx = x[u] - x[v];
            int dy = y[u] - y[v];
            return dx * dx + dy * dy;
        }

        /** Above 0: c is left of the way from a to b; below 0: right of it. */
        private int sideOf(int a, int b, int c) {
            return (x[b] - x[a]) * (y[c] - y[a]) - (y[b] - y[a]) * (x[c] - x[a]);
        }

        /** Above 0: seen from a, c lies on b's side rather than behind. */
        private int aheadOf(int a, int b, int c) {
            return (x[b] - x[a]) * (x[c] - x[a]) + (y[b] - y[a]) * (y[c] - y[a]);
        }

        private void add(int px, int py) {
            if (count >= MOST_NODES) return;
            x[count] = px;
            y[count] = py;
            awake |= 1 << count;
            count++;
        }

        private int put(int v, int px, int py) {
            int dx = px - x[v];
            int dy = py - y[v];
            x[v] = px;
            y[v] = py;
            return dx * dx + dy * dy;
        }

        private void setAwake(int v, boolean is) {
            awake = is ? awake | 1 << v : awake & ~(1 << v);
        }

        private void remove(int v) {
            for (int w = v; w + 1 < count; w++) {
                x[w] = x[w + 1];
                y[w] = y[w + 1];
            }
            int lower = (1 << v) - 1;
            awake = awake & lower | awake >> 1 & ~lower;
            count--;
        }

        private int drawPlace() {
            seed = (int) ((seed * 1103515245L + 12345L) % 2147483648L);
            return seed / 65536 % SIDE;
        }

        /** All but THE SEED, which stays when deeds are undone. */
        private void copyNet(Ground from) {
            for (int v = 0; v < MOST_NODES; v++) {
                x[v] = from.x[v];
                y[v] = from.y[v];
            }
            count = from.count;
            awake = from.awake;
            reach = from.reach;
            rule = from.rule;
        }
    }

    /** Who is LINKED and THIN with whom; made anew by follow() once the ground has changed. */
    private static final class Net {
        private final Ground ground;
        private final int[] linked;
        private final int[] thin;
        private final int[] seen;

        private Net(Ground ground) {
            this.ground = ground;
            linked = new int[MOST_NODES];
            thin = new int[MOST_NODES];
            seen = new int[MOST_NODES];
        }

        private void follow() {
            Arrays.fill(linked, 0);
            Arrays.fill(thin, 0);
            for (int u = 0; u < ground.count; u++) {
                for (int v = 0; v < u; v++) {
                    if (areNear(u, v)) tie(linked, u, v);
                    if (areNear(u, v) && isClear(u, v)) tie(thin, u, v);
                }
            }
        }

        private static void tie(int[] sets, int u, int v) {
            sets[u] |= 1 << v;
            sets[v] |= 1 << u;
        }

        private boolean areNear(int u, int v) {
            return ground.isAwake(u) && ground.isAwake(v) && ground.apart(u, v) <= ground.reach;
        }

        private boolean isClear(int u, int v) {
            for (int w = 0; w < ground.count; w++) {
                if (w != u && w != v && ground.isAwake(w) && isBetween(u, v, w)) return false;
            }
            return true;
        }

        private boolean isBetween(int u, int v, int w) {
            int all = ground.apart(u, v);
            int one = ground.apart(u, w);
            int other = ground.apart(w, v);
            return ground.rule == 0 ? one + other <= all : one < all && other < all;
        }

        private int countPairs(int[] sets) {
            int ways = 0;
            for (int u = 0; u < ground.count; u++) {
                ways += Integer.bitCount(sets[u]);
            }
            return ways / 2;
        }

        /** TURNING LEFT at u from v: the first THIN one that is not v, else v if it is THIN with u; NONE. */
        private int turnFrom(int u, int v) {
            int others = thin[u] & ~(1 << v);
            int first = NONE;
            boolean firstIsBehind = false;
            for (int w = 0; w < ground.count; w++) {
                if (!holds(others, w)) continue;
                boolean isBehind = isHalfRound(u, v, w);
                if (first == NONE || (isBehind == firstIsBehind ? isSooner(u, w, first) : firstIsBehind)) {
                    first = w;
                    firstIsBehind = isBehind;
                }
            }
            if (first != NONE) return first;
            return holds(thin[u], v) ? v : NONE;
        }

        /** Whether one turns half round or more, left at u from the direction to v, to look at w. */
        private boolean isHalfRound(int u, int v, int w) {
            int side = ground.sideOf(u, v, w);
            return side < 0 || side == 0 && ground.aheadOf(u, v, w) < 0;
        }

        /** Of two in the same half of the turn at u: whether w comes ahead of the other. */
        private boolean isSooner(int u, int w, int other) {
            int side = ground.sideOf(u, w, other);
            return side > 0 || side == 0 && ground.apart(u, w) < ground.apart(u, other);
        }

        private int faceLength(int u, int v) {
            int a = u;
            int b = v;
            for (int length = 1; length <= MOST_WAYS; length++) {
                seen[a] |= 1 << b;
                int c = turnFrom(b, a);
                if (c == NONE || b == u && c == v) return length;
                a = b;
                b = c;
            }
            return MOST_WAYS;
        }

        private int countFaces() {
            int faces = 0;
            Arrays.fill(seen, 0);
            for (int u = 0; u < ground.count; u++) {
                for (int v = 0; v < ground.count; v++) {
                    if (holds(thin[u] & ~seen[u], v)) {
                        faces++;
                        faceLength(u, v);
                    }
                }
            }
            return faces;
        }

        private int greatestFace() {
            int greatest = 0;
            Arrays.fill(seen, 0);
            for (int u = 0; u < ground.count; u++) {
                for (int v = 0; v < ground.count; v++) {
                    if (holds(thin[u] & ~seen[u], v)) greatest = Math.max(greatest, faceLength(u, v));
                }
            }
            return greatest;
        }

        private int countParts() {
            int parts = 0;
            int reached = 0;
            for (int v = 0; v < ground.count; v++) {
                if (ground.isAwake(v) && !holds(reached, v)) {
                    parts++;
                    reached |= partOf(v);
                }
            }
            return parts;
        }

        private int partOf(int v) {
            int part = 1 << v;
            for (int round = 0; round < MOST_NODES; round++) {
                part |= linkedWithAny(part);
            }
            return part;
        }

        private int linkedWithAny(int set) {
            int all = 0;
            for (int v = 0; v < ground.count; v++) {
                if (holds(set, v)) all |= linked[v];
            }
            return all;
        }

        private int fewestLinks(int s, int t) {
            int reached = 1 << s;
            for (int links = 0; links < MOST_NODES; links++) {
                if (holds(reached, t)) return links;
                reached |= linkedWithAny(reached);
            }
            return NONE;
        }

        private int countCrossings() {
            int crossings = 0;
            for (int a = 0; a < ground.count; a++) {
                for (int b = a + 1; b < ground.count; b++) {
                    if (holds(linked[a], b)) crossings += countCrossing(a, b);
                }
            }
            return crossings;
        }

        /** Counts only pairs whose lower node is above a, so that no two pairs are counted twice. */
        private int countCrossing(int a, int b) {
            int crossing = 0;
            for (int c = a + 1; c < ground.count; c++) {
                for (int d = c + 1; d < ground.count; d++) {
                    if (c != b && d != b && holds(linked[c], d) && meet(a, b, c, d)) crossing++;
                }
            }
            return crossing;
        }

        private boolean meet(int a, int b, int c, int d) {
            // The spans decide where all four stand on one line: there no side tells anything.
            return spansMeet(ground.x, a, b, c, d) && spansMeet(ground.y, a, b, c, d)
                && areParted(a, b, c, d) && areParted(c, d, a, b);
        }

        private static boolean spansMeet(int[] row, int a, int b, int c, int d) {
            return Math.max(row[a], row[b]) >= Math.min(row[c], row[d])
                && Math.max(row[c], row[d]) >= Math.min(row[a], row[b]);
        }

        /** Whether c and d are not both on one side of the line through a and b. */
        private boolean areParted(int a, int b, int c, int d) {
            int one = ground.sideOf(a, b, c);
            int other = ground.sideOf(a, b, d);
            return one <= 0 && other >= 0 || one >= 0 && other <= 0;
        }

        /** The LINKED one to which a GREEDY letter goes from u; NONE: it goes ASTRAY. */
        private int nearerThan(int u, int t) {
            int nearest = NONE;
            int least = ground.apart(u, t);
            for (int w = 0; w < ground.count; w++) {
                if (holds(linked[u], w) && ground.apart(w, t) < least) {
                    nearest = w;
                    least = ground.apart(w, t);
                }
            }
            return nearest;
        }

        private int aimsAstray(int u) {
            if (!ground.isAwake(u)) return 0;
            int aims = 0;
            for (int t = 0; t < ground.count; t++) {
                if (t != u && ground.isAwake(t) && nearerThan(u, t) == NONE) aims |= 1 << t;
            }
            return aims;
        }
    }

    /** THE WAY of one letter; what the last walk() told stands in its fields. */
    private static final class Letter {
        private final Ground ground;
        private final Net net;
        private final int[] path;
        private final int[] seenNext;
        private int here;
        private int aim;
        private int entry;
        private int next;
        private int shareOver;
        private int shareUnder;
        private int steps;
        private int timesAstray;
        private int changes;
        private int stepsRound;
        private int stood;
        private boolean round;
        private boolean lost;

        private Letter(Ground ground, Net net) {
            this.ground = ground;
            this.net = net;
            path = new int[MOST_STEPS + 1];
            seenNext = new int[MOST_NODES];
        }

        private void walk(int s, int t) {
            standAt(s, t);
            for (int turn = 0; turn < MOST_TURNS && here != aim && !lost; turn++) {
                if (steps >= MOST_STEPS) {
                    lost = true;
                } else if (round) {
                    goRound();
                } else {
                    goGreedy();
                }
            }
            lost = here != aim;
        }

        private void standAt(int s, int t) {
            here = s;
            aim = t;
            steps = 0;
            timesAstray = 0;
            changes = 0;
            stepsRound = 0;
            stood = 1 << s;
            path[0] = s;
            round = false;
            lost = false;
        }

        private void goTo(int v) {
            steps++;
            here = v;
            stood |= 1 << v;
            if (steps <= MOST_STEPS) path[steps] = v;
        }

        private void goGreedy() {
            int nearer = net.nearerThan(here, aim);
            if (nearer != NONE) {
                goTo(nearer);
                return;
            }
            timesAstray++;
            round = true;
            entry = here;
            shareOver = 0;
            shareUnder = 1;
            forgetSeen();
            // The aim itself is not THIN with this node: the letter would have gone to it.
            turnTo(net.turnFrom(here, aim));
        }

        private void goRound() {
            if (takesGreaterShare()) {
                changes++;
                forgetSeen();
                turnTo(net.turnFrom(here, next));
                return;
            }
            int from = here;
            goTo(next);
            stepsRound++;
            if (ground.apart(here, aim) < ground.apart(entry, aim)) {
                round = false;
            } else {
                turnTo(net.turnFrom(here, from));
            }
        }

        /** SHARE only grows and ENTRY only comes nearer: what stood before either changed never comes again. */
        private void forgetSeen() {
            Arrays.fill(seenNext, 0);
        }

        private void turnTo(int v) {
            next = v;
            if (v == NONE || holds(seenNext[here], v)) {
                lost = true;
            } else {
                seenNext[here] |= 1 << v;
            }
        }

        private boolean takesGreaterShare() {
            int sideHere = ground.sideOf(entry, aim, here);
            int sideNext = ground.sideOf(entry, aim, next);
            if (sideHere >= 0 == sideNext >= 0) return false;
            int dx = ground.x[next] - ground.x[here];
            int dy = ground.y[next] - ground.y[here];
            int over = (ground.x[here] - ground.x[entry]) * dy - (ground.y[here] - ground.y[entry]) * dx;
            int under = sideNext - sideHere;
            if (under < 0) {
                over = -over;
                under = -under;
            }
            // Both shares as whole numbers: each is below 2 to the 14, so the products hold in an int.
            if (over >= under || over * shareUnder <= shareOver * under) return false;
            shareOver = over;
            shareUnder = under;
            return true;
        }

        private int howItEnded() {
            if (lost) return WAS_LOST;
            return timesAstray == 0 ? CAME_GREEDY : CAME_OTHERWISE;
        }

        private int stepsOrNone() {
            return lost ? NONE : steps;
        }

        private int nodeBehind(int i) {
            return i >= 0 && i <= steps && i <= MOST_STEPS ? path[i] : NONE;
        }

        private int countEnding(int how) {
            int ways = 0;
            for (int s = 0; s < ground.count; s++) {
                for (int t = 0; t < ground.count; t++) {
                    if (s == t || !ground.isAwake(s) || !ground.isAwake(t)) continue;
                    walk(s, t);
                    if (howItEnded() == how) ways++;
                }
            }
            return ways;
        }
    }

    /** THE BOOK: what was told of ways, by the numbers that nodes had then. */
    private static final class Book {
        private final int[] from;
        private final int[] to;
        private final int[] steps;
        private int count;

        private Book() {
            from = new int[MOST_ENTRIES];
            to = new int[MOST_ENTRIES];
            steps = new int[MOST_ENTRIES];
            count = 0;
        }

        private void enter(int s, int t, int v) {
            if (count >= MOST_ENTRIES) return;
            from[count] = s;
            to[count] = t;
            steps[count] = v;
            count++;
        }

        private int firstWrong(Ground ground, Letter letter) {
            for (int i = 0; i < count; i++) {
                if (!ground.isAwake(from[i]) || !ground.isAwake(to[i])) return i;
                letter.walk(from[i], to[i]);
                if (letter.stepsOrNone() != steps[i]) return i;
            }
            return NONE;
        }
    }

    /** The ground as it was ahead of each of the latest deeds, in a ring. */
    private static final class Past {
        private final Ground[] ahead;
        private int latest;
        private int depth;

        private Past() {
            ahead = new Ground[MOST_UNDONE];
            for (int i = 0; i < MOST_UNDONE; i++) {
                ahead[i] = new Ground();
            }
            latest = 0;
            depth = 0;
        }

        private void remember(Ground ground) {
            latest = (latest + 1) % MOST_UNDONE;
            ahead[latest].copyNet(ground);
            if (depth < MOST_UNDONE) depth++;
        }

        private void giveBack(int n, Ground ground) {
            if (n < 1 || n > depth) return;
            ground.copyNet(ahead[Math.floorMod(latest - n + 1, MOST_UNDONE)]);
            latest = Math.floorMod(latest - n, MOST_UNDONE);
            depth -= n;
        }
    }
}
