import java.util.Random;

/** Long random runs of calls, each answer held against PlainModel's. */
public final class ModelTest {
    private static final int RUNS = 400, CALLS = 512;
    private static int wrong = 0;
    private static String log;
    private static FaceLetters x;
    private static PlainModel m;

    public static void main(String[] args) {
        int runs = args.length > 0 ? Integer.parseInt(args[0]) : RUNS;
        for (int run = 0; run < runs && wrong < 5; run++) oneRun(run);
        System.out.println(wrong == 0 ? "all answers are as the plain model's" : wrong + " runs differ");
        if (wrong != 0) System.exit(1);
    }

    private static void oneRun(int run) {
        Random r = new Random(run);
        x = new FaceLetters();
        m = new PlainModel();
        log = "";
        int side = new int[] {4, 8, 16, 64}[r.nextInt(4)];
        int reachTop = Math.max(2, new int[] {20, 60, 300, 2000, 8000}[r.nextInt(5)] * side / 64 + 2);
        int asks = 20 + r.nextInt(75);
        for (int call = 0; call < CALLS; call++) {
            boolean same = call < 10 && r.nextInt(4) > 0 ? node(r, side) : r.nextInt(100) < asks ? ask(r) : deed(r, side, reachTop);
            if (!same) {
                wrong++;
                System.out.println("run " + run + ": " + log);
                return;
            }
        }
    }

    private static boolean is(String call, int got, int want) {
        log += call + " = " + want + "; ";
        if (got != want) log += " but it answered " + got;
        return got == want;
    }

    /** Mostly a node's number, at times one that there is not. */
    private static int who(Random r) {
        if (r.nextInt(40) == 0) return r.nextInt(14) - 2;
        if (r.nextInt(200) == 0) return r.nextInt();
        return r.nextInt(Math.max(1, m.told(0)));
    }

    private static int odd(Random r, int usual) {
        if (r.nextInt(30) == 0) return r.nextInt(90) - 10;
        return r.nextInt(300) == 0 ? r.nextInt() : usual;
    }

    private static boolean ask(Random r) {
        int u = who(r), v = who(r), i = odd(r, r.nextInt(8));
        switch (r.nextInt(8)) {
            case 0: i = odd(r, r.nextInt(16)); return is("told(" + i + ")", x.told(i), m.told(i));
            case 1: return is("at(" + u + ", " + i + ")", x.at(u, i), m.at(u, i));
            case 2: return is("far(" + u + ", " + v + ")", x.far(u, v), m.far(u, v));
            case 3: return is("turning(" + u + ", " + v + ")", x.turning(u, v), m.turning(u, v));
            case 4: return is("face(" + u + ", " + v + ")", x.face(u, v), m.face(u, v));
            case 5: return is("way(" + u + ", " + v + ", " + i + ")", x.way(u, v, i), m.way(u, v, i));
            case 6: return is("step(" + u + ", " + v + ", " + i + ")", x.step(u, v, i), m.step(u, v, i));
            default: return is("hops(" + u + ", " + v + ")", x.hops(u, v), m.hops(u, v));
        }
    }

    private static boolean node(Random r, int side) {
        int a = odd(r, r.nextInt(side)), b = odd(r, r.nextInt(side));
        return is("node(" + a + ", " + b + ")", x.node(a, b), m.node(a, b));
    }

    private static boolean deed(Random r, int side, int reachTop) {
        int v = who(r), a = odd(r, r.nextInt(side)), b = odd(r, r.nextInt(side));
        switch (r.nextInt(16)) {
            case 0: case 1: case 2: return node(r, side);
            case 3: case 4: return is("move(" + v + ", " + a + ", " + b + ")", x.move(v, a, b), m.move(v, a, b));
            case 5: boolean is = r.nextInt(3) > 0; return is("wake(" + v + ", " + is + ")", x.wake(v, is), m.wake(v, is));
            case 6: return r.nextInt(2) == 0 || is("take(" + v + ")", x.take(v), m.take(v));
            case 7: case 8: a = odd(r, 1 + r.nextInt(reachTop)); return is("reach(" + a + ")", x.reach(a), m.reach(a));
            case 9: a = odd(r, r.nextInt(2)); return is("rule(" + a + ")", x.rule(a), m.rule(a));
            case 10: a = odd(r, 1 + r.nextInt(4)); return is("drift(" + a + ")", x.drift(a), m.drift(a));
            case 11: a = odd(r, 1 + r.nextInt(r.nextInt(6) == 0 ? 17 : 3)); return is("undo(" + a + ")", x.undo(a), m.undo(a));
            case 12: case 13: return write(r);
            case 14: if (r.nextInt(8) == 0) return is("tear()", x.tear(), m.tear());
                a = odd(r, r.nextInt(Integer.MAX_VALUE)); return is("seed(" + a + ")", x.seed(a), m.seed(a));
            default: a = odd(r, r.nextInt(2));
                if (r.nextInt(4) > 0) return true;
                return r.nextBoolean() ? is("keep(" + a + ")", x.keep(a), m.keep(a)) : is("goBack(" + a + ")", x.goBack(a), m.goBack(a));
        }
    }

    /** Mostly what is so now, so that WRONG is not the first entry each time. */
    private static boolean write(Random r) {
        int s = who(r), t = who(r);
        int steps = m.way(s, t, 0) == 2 ? -1 : m.way(s, t, 1);
        int v = r.nextInt(5) == 0 ? odd(r, r.nextInt(5) - 1) : steps;
        return is("write(" + s + ", " + t + ", " + v + ")", x.write(s, t, v), m.write(s, t, v));
    }
}
