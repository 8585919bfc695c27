/**
 * What each promise refuses in its last words: the last number that is allowed and the first that is not,
 * the greatest and the least int, two refusals at once, and behind each refused call that nothing has changed.
 */
public final class RefusalsTest {
    private static final int NONE = Due.NONE, UNKNOWN = Due.UNKNOWN, OUTSIDE = Due.OUTSIDE, NOT = Due.NOT, FULL = Due.FULL;
    private static final int LEAST = Due.LEAST, GREATEST = Due.GREATEST;
    private static final int ASLEEP = 5;
    private static final int[] OFF_THE_GRID = {-1, 64, LEAST, GREATEST};

    private interface OfOne {
        int on(FaceLetters x, int v);
    }

    private interface OfTwo {
        int on(FaceLetters x, int u, int v);
    }

    public static void main(String[] args) {
        theStatesAreWhatTheyAreFor();
        told();
        at();
        far();
        turning();
        face();
        way();
        step();
        hops();
        node();
        move();
        wake();
        take();
        reach();
        rule();
        drift();
        undo();
        write();
        tear();
        seed();
        keep();
        goBack();
        askedChangesNothing();
        Due.end();
    }

    private static FaceLetters fresh() {
        return new FaceLetters();
    }

    /** Six nodes, 5 asleep, three deeds to undo, both images, three entries. */
    private static FaceLetters some() {
        FaceLetters x = new FaceLetters();
        int[] places = {10, 10, 30, 10, 10, 20, 20, 24, 30, 20, 10, 0, 30, 0};
        for (int i = 0; i < places.length; i += 2) x.node(places[i], places[i + 1]);
        x.seed(7);
        x.keep(0);
        x.take(6);
        x.seed(99);
        x.keep(1);
        x.wake(ASLEEP, false);
        x.reach(120);
        x.rule(1);
        x.write(0, 1, x.way(0, 1, 1));
        x.write(2, 2, 0);
        x.write(4, 0, x.way(4, 0, 1));
        return x;
    }

    /** Ten nodes, 5 asleep, twenty right entries, sixteen deeds to undo; image 1 was not kept. */
    private static FaceLetters full() {
        FaceLetters x = new FaceLetters();
        x.seed(3);
        x.keep(0);
        for (int v = 0; v < 10; v++) x.node(6 * v, v % 3);
        x.reach(50);
        x.reach(60);
        x.reach(70);
        x.rule(1);
        x.wake(0, false);
        x.wake(0, true);
        x.move(9, 54, 1);
        x.wake(ASLEEP, false);
        for (int i = 0; i < 20; i++) x.write(i % 5, 0, i % 5);
        return x;
    }

    private static void theStatesAreWhatTheyAreFor() {
        Due.says("(the states that the calls below are made in)");
        FaceLetters x = some();
        Due.told(x, 0, 6, 5, 120, 1);
        Due.told(x, 12, 3, NONE, 3, 99);
        x = full();
        Due.told(x, 0, 10, 9, 70, 1);
        Due.told(x, 12, 20, NONE, 16, 3);
        Due.is("deeds forgotten", x.undo(16), 0);
        Due.is("nodes", x.told(0), 2);
    }

    private static void refused(String name, int want, Probe.Maker maker, Probe.Call call) {
        Due.is(name, call.on(maker.make()), want);
        Due.isTrue("nothing changed behind " + name, Probe.nothingChanges(maker, call));
    }

    private static void refusedAlways(String name, int want, Probe.Call call) {
        refused(name + " on a new object", want, RefusalsTest::fresh, call);
        refused(name + " among some", want, RefusalsTest::some, call);
        refused(name + " where all is full", want, RefusalsTest::full, call);
    }

    /** Numbers that no node has where there are n; 32 and 33 are 0 and 1 to a careless shift. */
    private static int[] strangersTo(int n) {
        return new int[] {-1, n, n + 1, 31, 32, 33, LEAST, LEAST + 1, GREATEST};
    }

    private static void unknownAlone(String name, OfOne call) {
        for (int v : strangersTo(0)) refused(name + " of " + v, UNKNOWN, RefusalsTest::fresh, x -> call.on(x, v));
        refused(name + " of 0", UNKNOWN, RefusalsTest::fresh, x -> call.on(x, 0));
        for (int v : strangersTo(6)) refused(name + " of " + v, UNKNOWN, RefusalsTest::some, x -> call.on(x, v));
        for (int v : strangersTo(10)) refused(name + " of " + v, UNKNOWN, RefusalsTest::full, x -> call.on(x, v));
    }

    /** Either of two, both, and beside one that is asleep. */
    private static void unknownOfTwo(String name, OfTwo call) {
        unknownAlone(name + ", 0 and", (x, v) -> call.on(x, 0, v));
        unknownAlone(name + ", 0 behind", (x, v) -> call.on(x, v, 0));
        unknownAlone(name + ", twice", (x, v) -> call.on(x, v, v));
        unknownAlone(name + ", the asleep one and", (x, v) -> call.on(x, ASLEEP, v));
        unknownAlone(name + ", the asleep one behind", (x, v) -> call.on(x, v, ASLEEP));
    }

    private static void allowed(String name, int answer) {
        Due.isTrue(name + " is allowed, but answered " + answer, answer >= NONE);
    }

    private static void told() {
        Due.says("Promise 2: OUTSIDE");
        for (int what : new int[] {-1, 16, LEAST, GREATEST}) refusedAlways("told(" + what + ")", OUTSIDE, x -> x.told(what));
        for (int what = 0; what <= 15; what++) {
            allowed("told(" + what + ")", fresh().told(what));
            allowed("told(" + what + ")", some().told(what));
            allowed("told(" + what + ")", full().told(what));
        }
    }

    private static void at() {
        Due.says("Promise 3: UNKNOWN, OUTSIDE");
        unknownAlone("at(.., 0)", (x, v) -> x.at(v, 0));
        unknownAlone("at(.., 5)", (x, v) -> x.at(v, 5));
        for (int what : new int[] {-1, 6, LEAST, GREATEST}) {
            refused("at(0, " + what + ")", OUTSIDE, RefusalsTest::some, x -> x.at(0, what));
            refused("at(5, " + what + ")", OUTSIDE, RefusalsTest::some, x -> x.at(5, what));
            unknownAlone("ahead of OUTSIDE at(.., " + what + ")", (x, v) -> x.at(v, what));
        }
        for (int what = 0; what <= 5; what++) {
            allowed("at(0, " + what + ")", some().at(0, what));
            allowed("at(5, " + what + ")", some().at(5, what));
            allowed("at(9, " + what + ")", full().at(9, what));
        }
    }

    private static void far() {
        Due.says("Promise 4: FAR of two NODES (perhaps the same). UNKNOWN");
        unknownOfTwo("far", FaceLetters::far);
        Due.is("far(5, 5)", some().far(5, 5), 0);
        Due.is("far(0, 5)", some().far(0, 5), 100);
        Due.is("far(5, 0)", some().far(5, 0), 100);
        Due.is("far(9, 0)", full().far(9, 0), 54 * 54 + 1);
    }

    private static void turning() {
        Due.says("Promise 5: UNKNOWN (u and v the same, too)");
        unknownOfTwo("turning", FaceLetters::turning);
        for (int v = 0; v < 6; v++) {
            int u = v;
            refused("turning(" + u + ", " + u + ")", UNKNOWN, RefusalsTest::some, x -> x.turning(u, u));
        }
        Due.is("turning(0, 5)", some().turning(0, 5), 2);
        Due.is("turning(5, 0)", some().turning(5, 0), NONE);
        allowed("turning(9, 0)", full().turning(9, 0));
    }

    private static void face() {
        Due.says("Promise 6: NONE: it is not THIN. UNKNOWN");
        unknownOfTwo("face", FaceLetters::face);
        for (int v = 0; v < 6; v++) {
            int u = v;
            refused("face(" + u + ", " + u + ")", UNKNOWN, RefusalsTest::some, x -> x.face(u, u));
        }
        Due.is("face(0, 5)", some().face(0, 5), NONE);
        Due.is("face(5, 0)", some().face(5, 0), NONE);
        Due.is("face(0, 1)", some().face(0, 1), NONE);
        Due.is("face(9, 8)", full().face(9, 8), 6);
    }

    private static void way() {
        Due.says("Promise 7: UNKNOWN, OUTSIDE, NOT: one is not AWAKE");
        for (int what : new int[] {-1, 6, LEAST, GREATEST}) {
            unknownOfTwo("ahead of OUTSIDE way(.., .., " + what + ")", (x, s, t) -> x.way(s, t, what));
            refused("way(0, 1, " + what + ")", OUTSIDE, RefusalsTest::some, x -> x.way(0, 1, what));
            refused("way(0, 0, " + what + ")", OUTSIDE, RefusalsTest::some, x -> x.way(0, 0, what));
            refused("ahead of NOT way(5, 1, " + what + ")", OUTSIDE, RefusalsTest::some, x -> x.way(ASLEEP, 1, what));
            refused("ahead of NOT way(1, 5, " + what + ")", OUTSIDE, RefusalsTest::some, x -> x.way(1, ASLEEP, what));
        }
        for (int i = 0; i <= 5; i++) {
            int what = i;
            unknownOfTwo("way(.., .., " + what + ")", (x, s, t) -> x.way(s, t, what));
            refused("way(5, 1, " + what + ")", NOT, RefusalsTest::some, x -> x.way(ASLEEP, 1, what));
            refused("way(1, 5, " + what + ")", NOT, RefusalsTest::some, x -> x.way(1, ASLEEP, what));
            refused("way(5, 5, " + what + ")", NOT, RefusalsTest::some, x -> x.way(ASLEEP, ASLEEP, what));
            allowed("way(0, 1, " + what + ")", some().way(0, 1, what));
            allowed("way(9, 9, " + what + ")", full().way(9, 9, what));
        }
    }

    private static void step() {
        Due.says("Promise 8: NONE: it has not so many. UNKNOWN, OUTSIDE (i below 0), NOT");
        for (int i : new int[] {-1, -2, LEAST}) {
            unknownOfTwo("ahead of OUTSIDE step(.., .., " + i + ")", (x, s, t) -> x.step(s, t, i));
            refused("step(0, 1, " + i + ")", OUTSIDE, RefusalsTest::some, x -> x.step(0, 1, i));
            refused("step(0, 0, " + i + ")", OUTSIDE, RefusalsTest::some, x -> x.step(0, 0, i));
            refused("ahead of NOT step(5, 1, " + i + ")", OUTSIDE, RefusalsTest::some, x -> x.step(ASLEEP, 1, i));
            refused("ahead of NOT step(1, 5, " + i + ")", OUTSIDE, RefusalsTest::some, x -> x.step(1, ASLEEP, i));
        }
        for (int i : new int[] {0, 1, 200, 201, GREATEST}) {
            unknownOfTwo("step(.., .., " + i + ")", (x, s, t) -> x.step(s, t, i));
            refused("step(5, 1, " + i + ")", NOT, RefusalsTest::some, x -> x.step(ASLEEP, 1, i));
            refused("step(1, 5, " + i + ")", NOT, RefusalsTest::some, x -> x.step(1, ASLEEP, i));
            refused("step(5, 5, " + i + ")", NOT, RefusalsTest::some, x -> x.step(ASLEEP, ASLEEP, i));
        }
        Due.steps(some(), 0, 1, 0, 2, 3, 4, 1, NONE);
        Due.steps(some(), 1, 1, 1, NONE);
        for (int i : new int[] {5, 6, 199, 200, 201, 202, 65536, GREATEST - 1, GREATEST}) Due.is("step(0, 1, " + i + ")", some().step(0, 1, i), NONE);
    }

    private static void hops() {
        Due.says("Promise 9: HOPS (s, t perhaps the same: 0). UNKNOWN, NOT: one is not AWAKE");
        unknownOfTwo("hops", FaceLetters::hops);
        refused("hops(5, 1)", NOT, RefusalsTest::some, x -> x.hops(ASLEEP, 1));
        refused("hops(1, 5)", NOT, RefusalsTest::some, x -> x.hops(1, ASLEEP));
        refused("hops(5, 5)", NOT, RefusalsTest::some, x -> x.hops(ASLEEP, ASLEEP));
        Due.is("hops(1, 1)", some().hops(1, 1), 0);
        Due.is("hops(9, 9)", full().hops(9, 9), 0);
        Due.is("hops(0, 9)", full().hops(0, 9), NONE);
    }

    private static void node() {
        Due.says("Promise 10: OUTSIDE, NOT: one stands there; FULL (10; ahead of NOT)");
        for (int off : OFF_THE_GRID) {
            refusedAlways("node(" + off + ", 10)", OUTSIDE, x -> x.node(off, 10));
            refusedAlways("node(10, " + off + ")", OUTSIDE, x -> x.node(10, off));
            refusedAlways("node(" + off + ", " + off + ")", OUTSIDE, x -> x.node(off, off));
        }
        refused("where one stands", NOT, RefusalsTest::some, x -> x.node(10, 10));
        refused("where the last one stands, asleep", NOT, RefusalsTest::some, x -> x.node(10, 0));
        refused("the eleventh", FULL, RefusalsTest::full, x -> x.node(40, 40));
        refused("the eleventh where one stands: FULL ahead of NOT", FULL, RefusalsTest::full, x -> x.node(0, 0));
        refused("the eleventh where the last one stands", FULL, RefusalsTest::full, x -> x.node(54, 1));
        for (int x : new int[] {0, 63}) {
            for (int y : new int[] {0, 63}) Due.is("node(" + x + ", " + y + ")", some().node(x, y), 6);
        }
    }

    private static void move() {
        Due.says("Promise 11: UNKNOWN, OUTSIDE, NOT: another one stands there");
        unknownAlone("move(.., 40, 40)", (x, v) -> x.move(v, 40, 40));
        unknownAlone("ahead of NOT move(.., 10, 10)", (x, v) -> x.move(v, 10, 10));
        for (int off : OFF_THE_GRID) {
            unknownAlone("ahead of OUTSIDE move(.., " + off + ", 0)", (x, v) -> x.move(v, off, 0));
            unknownAlone("ahead of OUTSIDE move(.., 0, " + off + ")", (x, v) -> x.move(v, 0, off));
            refused("move(0, " + off + ", 10)", OUTSIDE, RefusalsTest::some, x -> x.move(0, off, 10));
            refused("move(0, 10, " + off + ")", OUTSIDE, RefusalsTest::some, x -> x.move(0, 10, off));
            refused("move(9, " + off + ", " + off + ")", OUTSIDE, RefusalsTest::full, x -> x.move(9, off, off));
        }
        refused("move(0, 30, 10)", NOT, RefusalsTest::some, x -> x.move(0, 30, 10));
        refused("move(1, 10, 10)", NOT, RefusalsTest::some, x -> x.move(1, 10, 10));
        refused("move(0, 10, 0) to one asleep", NOT, RefusalsTest::some, x -> x.move(0, 10, 0));
        refused("move(5, 10, 10) of one asleep", NOT, RefusalsTest::some, x -> x.move(ASLEEP, 10, 10));
        refused("move(0, 54, 1) to the last one", NOT, RefusalsTest::full, x -> x.move(0, 54, 1));
        Due.is("move(0, 10, 10): just it stands there", some().move(0, 10, 10), 0);
        Due.is("move(5, 10, 0): just it stands there, asleep", some().move(ASLEEP, 10, 0), 0);
        Due.is("move(0, 0, 0)", some().move(0, 0, 0), 200);
        Due.is("move(0, 63, 63)", some().move(0, 63, 63), 53 * 53 * 2);
        Due.is("move(0, 0, 63)", some().move(0, 0, 63), 100 + 53 * 53);
        Due.is("move(0, 63, 0)", some().move(0, 63, 0), 100 + 53 * 53);
        Due.is("move(9, 63, 63) where all is full", full().move(9, 63, 63), 81 + 62 * 62);
        Due.is("move(5, 63, 63) of one asleep", some().move(ASLEEP, 63, 63), 53 * 53 + 63 * 63);
    }

    private static void wake() {
        Due.says("Promise 12: how many are. UNKNOWN");
        unknownAlone("wake(.., true)", (x, v) -> x.wake(v, true));
        unknownAlone("wake(.., false)", (x, v) -> x.wake(v, false));
        Due.is("wake(0, false)", some().wake(0, false), 4);
        Due.is("wake(0, true), awake already", some().wake(0, true), 5);
        Due.is("wake(5, true)", some().wake(ASLEEP, true), 6);
        Due.is("wake(5, false), asleep already", some().wake(ASLEEP, false), 5);
        Due.is("wake(9, false)", full().wake(9, false), 8);
        FaceLetters x = full();
        for (int v = 9; v >= 0; v--) x.wake(v, false);
        Due.is("none is awake", x.told(1), 0);
        for (int v = 0; v < 9; v++) Due.is("wake(" + v + ", true)", x.wake(v, true), v + 1);
        Due.is("all ten are awake", x.wake(9, true), 10);
    }

    private static void take() {
        Due.says("Promise 13: how many are left. UNKNOWN");
        unknownAlone("take", (x, v) -> x.take(v));
        Due.is("take(0)", some().take(0), 5);
        Due.is("take(5)", some().take(ASLEEP), 5);
        FaceLetters x = full();
        for (int left = 9; left >= 0; left--) {
            Due.is("take(" + left + ")", x.take(left), left);
            Due.is("take(" + left + ") again", x.take(left), UNKNOWN);
        }
        x = full();
        for (int left = 9; left >= 0; left--) Due.is("take(0)", x.take(0), left);
        Due.is("take(0) of none", x.take(0), UNKNOWN);
    }

    private static void reach() {
        Due.says("Promise 14: REACH: what it was. OUTSIDE");
        for (int v : new int[] {0, -1, 8001, LEAST, GREATEST}) refusedAlways("reach(" + v + ")", OUTSIDE, x -> x.reach(v));
        for (int v : new int[] {1, 2, 7999, 8000}) {
            FaceLetters x = some();
            Due.is("reach(" + v + ")", x.reach(v), 120);
            Due.is("reach behind it", x.told(2), v);
            Due.is("reach(1) behind it", x.reach(1), v);
        }
    }

    private static void rule() {
        Due.says("Promise 15: RULE: what it was. OUTSIDE (0, 1)");
        for (int v : new int[] {-1, 2, LEAST, GREATEST}) refusedAlways("rule(" + v + ")", OUTSIDE, x -> x.rule(v));
        FaceLetters x = new FaceLetters();
        Due.is("rule(0)", x.rule(0), 0);
        Due.is("rule(1)", x.rule(1), 0);
        Due.is("rule(1)", x.rule(1), 1);
        Due.is("rule(0)", x.rule(0), 1);
        Due.told(x, 3, 0);
    }

    private static void drift() {
        Due.says("Promise 16: n times BY DRAWS (1 .. 10): NODES. OUTSIDE");
        for (int n : new int[] {0, -1, 11, LEAST, GREATEST}) refusedAlways("drift(" + n + ")", OUTSIDE, x -> x.drift(n));
        Due.is("drift(1) of none", fresh().drift(1), 1);
        Due.is("drift(10) of none", fresh().drift(10), 10);
        Due.is("drift(1) among some", some().drift(1), 7);
        Due.is("drift(10) among some", some().drift(10), 10);
        for (int n = 1; n <= 10; n++) {
            int times = n;
            Due.is("drift(" + n + ") where there is no room", full().drift(n), 10);
            Due.isTrue("nothing drawn there", Probe.nothingChanges(RefusalsTest::full, x -> x.drift(times)));
        }
    }

    private static void undo() {
        Due.says("Promise 17: The n latest (1 .. 16) are undone: how many can be then. OUTSIDE, NOT: not so many");
        for (int n : new int[] {0, -1, 17, LEAST, GREATEST}) refusedAlways("undo(" + n + ")", OUTSIDE, x -> x.undo(n));
        for (int i = 1; i <= 16; i++) {
            int n = i;
            refused("undo(" + n + ") of none", NOT, RefusalsTest::fresh, x -> x.undo(n));
            Due.is("undo(" + n + ") of sixteen", full().undo(n), 16 - n);
            if (n > 3) refused("undo(" + n + ") of three", NOT, RefusalsTest::some, x -> x.undo(n));
            else Due.is("undo(" + n + ") of three", some().undo(n), 3 - n);
        }
    }

    private static void write() {
        Due.says("Promise 18: (s, t perhaps the same, AWAKE or not; STEPS v, any): how many. UNKNOWN, FULL (20)");
        for (int v : new int[] {0, 77, NONE, LEAST, GREATEST}) {
            unknownOfTwo("write(.., .., " + v + ")", (x, s, t) -> x.write(s, t, v));
            refused("the twenty-first, write(0, 1, " + v + ")", FULL, RefusalsTest::full, x -> x.write(0, 1, v));
            refused("the twenty-first, write(5, 5, " + v + ")", FULL, RefusalsTest::full, x -> x.write(ASLEEP, ASLEEP, v));
            Due.is("write(0, 1, " + v + ")", some().write(0, 1, v), 4);
            Due.is("write(1, 1, " + v + ")", some().write(1, 1, v), 4);
            Due.is("write(5, 1, " + v + "), asleep", some().write(ASLEEP, 1, v), 4);
            Due.is("write(1, 5, " + v + "), asleep", some().write(1, ASLEEP, v), 4);
            Due.is("write(5, 5, " + v + "), asleep", some().write(ASLEEP, ASLEEP, v), 4);
        }
    }

    private static void tear() {
        Due.says("Promise 19: No BOOK: how much it had");
        Due.is("tear() of none", fresh().tear(), 0);
        Due.isTrue("nothing changes then", Probe.nothingChanges(RefusalsTest::fresh, FaceLetters::tear));
        Due.is("tear() of three", some().tear(), 3);
        FaceLetters x = full();
        Due.is("tear() of twenty", x.tear(), 20);
        Due.told(x, 12, 0, NONE, 16);
        Due.is("tear() again", x.tear(), 0);
        Due.is("there is room again", x.write(9, 9, 0), 1);
    }

    private static void seed() {
        Due.says("Promise 20: THE SEED becomes v (0 .. 2147483647): what it was. OUTSIDE");
        for (int v : new int[] {-1, -2, LEAST, LEAST + 1}) refusedAlways("seed(" + v + ")", OUTSIDE, x -> x.seed(v));
        FaceLetters x = some();
        Due.is("seed(0)", x.seed(0), 99);
        Due.is("seed(1)", x.seed(1), 0);
        Due.is("seed(2147483646)", x.seed(2147483646), 1);
        Due.is("seed(2147483647)", x.seed(2147483647), 2147483646);
        Due.is("seed(0)", x.seed(0), 2147483647);
    }

    private static void keep() {
        Due.says("Promise 21: UNKNOWN");
        for (int i : new int[] {-1, 2, 31, 32, 33, LEAST, GREATEST}) refusedAlways("keep(" + i + ")", UNKNOWN, x -> x.keep(i));
        Due.is("keep(0)", some().keep(0), 1);
        Due.is("keep(1)", some().keep(1), 1);
        Due.is("keep(1) of none", fresh().keep(1), 1);
    }

    private static void goBack() {
        Due.says("Promise 22: UNKNOWN, NOT: it was not kept");
        for (int i : new int[] {-1, 2, 31, 32, 33, LEAST, GREATEST}) refusedAlways("goBack(" + i + ")", UNKNOWN, x -> x.goBack(i));
        refused("goBack(0) of none", NOT, RefusalsTest::fresh, x -> x.goBack(0));
        refused("goBack(1) of none", NOT, RefusalsTest::fresh, x -> x.goBack(1));
        refused("goBack(1), where just 0 was kept", NOT, RefusalsTest::full, x -> x.goBack(1));
        Due.is("goBack(0), where just 0 was kept", full().goBack(0), 1);
        FaceLetters x = new FaceLetters();
        x.keep(1);
        Due.is("goBack(0), where just 1 was kept", x.goBack(0), NOT);
        Due.is("goBack(1), where just 1 was kept", x.goBack(1), 1);
        Due.is("goBack(0) and goBack(1)", some().goBack(0) + some().goBack(1), 2);
    }

    private static void askedChangesNothing() {
        Due.says("ASKED, nothing changes by it");
        for (Probe.Maker maker : new Probe.Maker[] {RefusalsTest::some, RefusalsTest::full}) {
            for (int i = 0; i < 16; i++) {
                int what = i;
                Due.isTrue("nothing changed behind told(" + what + ")", Probe.nothingChanges(maker, x -> x.told(what)));
            }
            for (int i = 0; i < 6; i++) {
                int what = i;
                Due.isTrue("nothing changed behind at(.., " + what + ")", Probe.nothingChanges(maker, x -> x.at(3, what)));
                Due.isTrue("nothing changed behind way(.., .., " + what + ")", Probe.nothingChanges(maker, x -> x.way(4, 0, what)));
            }
            Due.isTrue("nothing changed behind far()", Probe.nothingChanges(maker, x -> x.far(1, 2)));
            Due.isTrue("nothing changed behind turning()", Probe.nothingChanges(maker, x -> x.turning(2, 3)));
            Due.isTrue("nothing changed behind face()", Probe.nothingChanges(maker, x -> x.face(2, 3)));
            Due.isTrue("nothing changed behind step()", Probe.nothingChanges(maker, x -> x.step(4, 0, 1)));
            Due.isTrue("nothing changed behind hops()", Probe.nothingChanges(maker, x -> x.hops(4, 0)));
        }
    }
}
