import java.util.Random;

/** Long random runs of calls, ordinary ones and such at the edges, each answer held against PlainModel's. */
public final class ModelTest {
    private static final int RUNS = 400, CALLS = 512;
    private static final int[] EDGES = {Integer.MIN_VALUE, Integer.MIN_VALUE + 1, -1000000001, -64, -2, -1, 0, 1, 2, 5, 6, 9, 10, 11, 15, 16, 17,
        19, 20, 21, 31, 32, 33, 62, 63, 64, 65, 199, 200, 201, 400, 401, 7937, 7938, 7999, 8000, 8001, 65535, 65536, 1 << 30,
        Integer.MAX_VALUE - 1, Integer.MAX_VALUE};
    private static int wrong = 0;
    private static String log;
    private static FaceLetters x;
    private static PlainModel m;

    public static void main(String[] args) {
        int runs = args.length > 0 ? Integer.parseInt(args[0]) : RUNS;
        for (int run = 0; run < runs && wrong < 5; run++) {
            oneRun(run);
            edgeRun(run);
        }
        System.out.println(wrong == 0 ? "all answers are as the plain model's" : wrong + " runs differ");
        if (wrong != 0) System.exit(1);
    }

    private static void start() {
        x = new FaceLetters();
        m = new PlainModel();
        log = "";
    }

    private static void edgeRun(int run) {
        Random r = new Random(run);
        start();
        int wild = 1 + r.nextInt(60);
        for (int call = 0; call < CALLS; call++) {
            if (edgeCall(r.nextInt(25), edge(r, wild), edge(r, wild), edge(r, wild))) continue;
            wrong++;
            System.out.println("edge run " + run + ": " + log);
            return;
        }
    }

    /** At times an edge, mostly a small number that may be a node's. */
    private static int edge(Random r, int wild) {
        return r.nextInt(100) < wild ? EDGES[r.nextInt(EDGES.length)] : r.nextInt(10);
    }

    private static boolean edgeCall(int which, int a, int b, int c) {
        String args = "(" + a + ", " + b + ", " + c + ")";
        switch (which) {
            case 0: return is("told" + args, x.told(a), m.told(a));
            case 1: return is("at" + args, x.at(a, b), m.at(a, b));
            case 2: return is("far" + args, x.far(a, b), m.far(a, b));
            case 3: return is("turning" + args, x.turning(a, b), m.turning(a, b));
            case 4: return is("face" + args, x.face(a, b), m.face(a, b));
            case 5: return is("way" + args, x.way(a, b, c), m.way(a, b, c));
            case 6: return is("step" + args, x.step(a, b, c), m.step(a, b, c));
            case 7: return is("hops" + args, x.hops(a, b), m.hops(a, b));
            case 8: return is("move" + args, x.move(a, b, c), m.move(a, b, c));
            case 9: return is("wake, " + (b > 3) + args, x.wake(a, b > 3), m.wake(a, b > 3));
            case 10: return is("take" + args, x.take(a), m.take(a));
            case 11: return is("reach" + args, x.reach(a), m.reach(a));
            case 12: return is("rule" + args, x.rule(a), m.rule(a));
            case 13: return is("drift" + args, x.drift(a), m.drift(a));
            case 14: return is("undo" + args, x.undo(a), m.undo(a));
            case 15: return is("write" + args, x.write(a, b, c), m.write(a, b, c));
            case 16: return c > 2 || is("tear" + args, x.tear(), m.tear());
            case 17: return is("seed" + args, x.seed(a), m.seed(a));
            case 18: return is("keep" + args, x.keep(a), m.keep(a));
            case 19: return is("goBack" + args, x.goBack(a), m.goBack(a));
            default: return is("node" + args, x.node(a, b), m.node(a, b));
        }
    }

    private static void oneRun(int run) {
        Random r = new Random(run);
        start();
        int side = new int[] {4, 8, 16, 64}[r.nextInt(4)];
        int reachTop = Math.max(2, new int[] {20, 60, 300, 2000, 8000}[r.nextInt(5)] * side / 64 + 2);
        int asks = 20 + r.nextInt(75);
        for (int call = 0; call < CALLS; call++) {
            boolean same = call < 10 && r.nextInt(4) > 0 ? node(r, side) : r.nextInt(100) < asks ? ask(r) : deed(r, side, reachTop);
            if (!same) {
                wrong++;
                System.out.println("run " + run + ": " + log);
                return;
            }
        }
    }

    private static boolean is(String call, int got, int want) {
        log += call + " = " + want + "; ";
        if (got != want) log += " but it answered " + got;
        return got == want;
    }

    /** Mostly a node's number, at times one that there is not. */
    private static int who(Random r) {
        if (r.nextInt(40) == 0) return r.nextInt(14) - 2;
        if (r.nextInt(200) == 0) return r.nextInt();
        return r.nextInt(Math.max(1, m.told(0)));
    }

    private static int odd(Random r, int usual) {
        if (r.nextInt(30) == 0) return r.nextInt(90) - 10;
        return r.nextInt(300) == 0 ? r.nextInt() : usual;
    }

    private static boolean ask(Random r) {
        int u = who(r), v = who(r), i = odd(r, r.nextInt(8));
        switch (r.nextInt(8)) {
            case 0: i = odd(r, r.nextInt(16)); return is("told(" + i + ")", x.told(i), m.told(i));
            case 1: return is("at(" + u + ", " + i + ")", x.at(u, i), m.at(u, i));
            case 2: return is("far(" + u + ", " + v + ")", x.far(u, v), m.far(u, v));
            case 3: return is("turning(" + u + ", " + v + ")", x.turning(u, v), m.turning(u, v));
            case 4: return is("face(" + u + ", " + v + ")", x.face(u, v), m.face(u, v));
            case 5: return is("way(" + u + ", " + v + ", " + i + ")", x.way(u, v, i), m.way(u, v, i));
            case 6: return is("step(" + u + ", " + v + ", " + i + ")", x.step(u, v, i), m.step(u, v, i));
            default: return is("hops(" + u + ", " + v + ")", x.hops(u, v), m.hops(u, v));
        }
    }

    private static boolean node(Random r, int side) {
        int a = odd(r, r.nextInt(side)), b = odd(r, r.nextInt(side));
        return is("node(" + a + ", " + b + ")", x.node(a, b), m.node(a, b));
    }

    private static boolean deed(Random r, int side, int reachTop) {
        int v = who(r), a = odd(r, r.nextInt(side)), b = odd(r, r.nextInt(side));
        switch (r.nextInt(16)) {
            case 0: case 1: case 2: return node(r, side);
            case 3: case 4: return is("move(" + v + ", " + a + ", " + b + ")", x.move(v, a, b), m.move(v, a, b));
            case 5: boolean is = r.nextInt(3) > 0; return is("wake(" + v + ", " + is + ")", x.wake(v, is), m.wake(v, is));
            case 6: return r.nextInt(2) == 0 || is("take(" + v + ")", x.take(v), m.take(v));
            case 7: case 8: a = odd(r, 1 + r.nextInt(reachTop)); return is("reach(" + a + ")", x.reach(a), m.reach(a));
            case 9: a = odd(r, r.nextInt(2)); return is("rule(" + a + ")", x.rule(a), m.rule(a));
            case 10: a = odd(r, 1 + r.nextInt(4)); return is("drift(" + a + ")", x.drift(a), m.drift(a));
            case 11: a = odd(r, 1 + r.nextInt(r.nextInt(6) == 0 ? 17 : 3)); return is("undo(" + a + ")", x.undo(a), m.undo(a));
            case 12: case 13: return write(r);
            case 14: if (r.nextInt(8) == 0) return is("tear()", x.tear(), m.tear());
                a = odd(r, r.nextInt(Integer.MAX_VALUE)); return is("seed(" + a + ")", x.seed(a), m.seed(a));
            default: a = odd(r, r.nextInt(2));
                if (r.nextInt(4) > 0) return true;
                return r.nextBoolean() ? is("keep(" + a + ")", x.keep(a), m.keep(a)) : is("goBack(" + a + ")", x.goBack(a), m.goBack(a));
        }
    }

    /** Mostly what is so now, so that WRONG is not the first entry each time. */
    private static boolean write(Random r) {
        int s = who(r), t = who(r);
        int steps = m.way(s, t, 0) == 2 ? -1 : m.way(s, t, 1);
        int v = r.nextInt(5) == 0 ? odd(r, r.nextInt(5) - 1) : steps;
        return is("write(" + s + ", " + t + ", " + v + ")", x.write(s, t, v), m.write(s, t, v));
    }
}
