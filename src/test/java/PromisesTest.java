/** Each promise of the document by examples worked out by hand: ordinary calls, edges, wrong inputs. */
public final class PromisesTest {
    private static final int NONE = -1, UNKNOWN = -1000000001, OUTSIDE = -1000000002, NOT = -1000000003, FULL = -1000000004;
    private static final int[] NO_NODE_OF_10 = {-1, 10, 31, 32, Integer.MIN_VALUE, Integer.MAX_VALUE};
    private static int wrong = 0;
    private static String promise = "";

    public static void main(String[] args) {
        newObject();
        toldOfTheNet();
        toldOfFaces();
        toldOfCrossings();
        toldOfWays();
        atANode();
        atWhereLettersGoAstray();
        farOfTwo();
        turningLeft();
        faceOfAWay();
        wayThatComes();
        wayThatIsLost();
        wayTurnsLeft();
        stepByStep();
        hopsOfTwo();
        nodeComes();
        moveOfANode();
        wakeOfANode();
        takeOfANode();
        reachChanges();
        ruleChanges();
        driftByDraws();
        undoOfDeeds();
        undoKeepsSixteen();
        writeInTheBook();
        wrongEntries();
        tearTheBook();
        seedChanges();
        keepAnImage();
        goBackToAnImage();
        System.out.println(wrong == 0 ? "all promises hold" : wrong + " answers are not as due");
        if (wrong != 0) System.exit(1);
    }

    private static void due(String call, int got, int want) {
        if (got == want) return;
        wrong++;
        System.out.println(promise + ": " + call + " answered " + got + ", due is " + want);
    }

    private static FaceLetters net(int reach, int... places) {
        FaceLetters x = new FaceLetters();
        for (int i = 0; i + 1 < places.length; i += 2) due("node " + i / 2, x.node(places[i], places[i + 1]), i / 2);
        x.reach(reach);
        return x;
    }

    /** 0 and 1 on either side of a gap, 2 .. 4 an arch over it, 5 and 6 dead ends below. */
    private static FaceLetters arch() {
        return net(120, 10, 10, 30, 10, 10, 20, 20, 24, 30, 20, 10, 0, 30, 0);
    }

    /** 0 in the midst of 1 east, 2 north, 3 west, 4 south. */
    private static FaceLetters star() {
        return net(100, 30, 30, 40, 30, 30, 40, 20, 30, 30, 20);
    }

    private static void dueAll(String what, FaceLetters x, int... wants) {
        for (int i = 0; i < wants.length; i++) due(what + " told(" + i + ")", x.told(i), wants[i]);
    }

    private static void newObject() {
        promise = "promise 1";
        dueAll("new", new FaceLetters(), 0, 0, 400, 0, 0, 0, 0, 0, 0, 0, 0, 0, 0, NONE, 0, 0);
        FaceLetters x = new FaceLetters();
        x.node(1, 2);
        due("another new object's nodes", new FaceLetters().told(0), 0);
        due("at(0, 0)", new FaceLetters().at(0, 0), UNKNOWN);
        due("goBack(0)", new FaceLetters().goBack(0), NOT);
        due("undo(1)", new FaceLetters().undo(1), NOT);
    }

    private static void toldOfTheNet() {
        promise = "promise 2";
        FaceLetters x = arch();
        dueAll("arch", x, 7, 7, 120, 0, 6, 6, 1, 1, 0, 12);
        due("arch told(12)", x.told(12), 0);
        due("arch told(14)", x.told(14), 8);
        x.wake(3, false);
        dueAll("arch without its top", x, 7, 6, 120, 0, 4, 4, 2, 2, 0, 4);
        x.wake(1, false);
        due("parts, where two are alone", x.told(7), 3);
        for (int what : new int[] {-1, 16, 17, Integer.MIN_VALUE, Integer.MAX_VALUE}) due("told(" + what + ")", x.told(what), OUTSIDE);
        x = net(100, 0, 0, 6, 8, 0, 11);
        due("linked at just REACH", x.told(4), 1 + 1);
        x.reach(99);
        due("linked below it", x.told(4), 1);
    }

    private static void toldOfFaces() {
        promise = "promise 2 (faces)";
        FaceLetters x = net(400, 0, 0, 10, 0, 5, 9);
        due("triangle, thin", x.told(5), 3);
        due("triangle, faces", x.told(6), 2);
        due("triangle, greatest", x.told(9), 3);
        x.node(5, 3);
        due("a node inside, thin", x.told(5), 3);
        due("a node inside, faces", x.told(6), 1);
        due("a node inside, greatest", x.told(9), 6);
        x = net(100, 0, 0, 10, 0, 10, 10, 0, 10, 15, 0);
        due("a square with a tail, faces", x.told(6), 2);
        due("a square with a tail, greatest", x.told(9), 6);
        x = net(400, 0, 0, 1, 0);
        due("one pair, faces", x.told(6), 1);
        due("one pair, greatest", x.told(9), 2);
        x = net(1, 0, 0, 5, 5);
        due("no pair, faces", x.told(6), 0);
        due("no pair, greatest", x.told(9), 0);
    }

    private static void toldOfCrossings() {
        promise = "promise 2 (crossings)";
        due("a cross", net(8000, 0, 0, 10, 10, 0, 10, 10, 0).told(8), 1);
        due("a cross off the grid's places", net(8000, 0, 0, 9, 9, 0, 9, 9, 0).told(8), 1);
        due("one touches another", net(8000, 0, 0, 10, 0, 5, 0, 5, 5).told(8), 1);
        due("on one line", net(8000, 0, 0, 10, 0, 5, 0, 15, 0).told(8), 2);
        due("on one upright line", net(8000, 3, 0, 3, 10, 3, 5, 3, 15).told(8), 2);
        due("none", net(8000, 0, 0, 10, 0, 5, 1, 5, 9).told(8), 0);
        FaceLetters x = net(8000, 0, 0, 10, 10, 0, 10, 10, 0);
        x.reach(199);
        due("diagonals out of reach", x.told(8), 0);
        x.reach(200);
        x.wake(1, false);
        due("one asleep", x.told(8), 0);
        due("ten on one line", net(8000, 0, 0, 1, 0, 2, 0, 3, 0, 4, 0, 5, 0, 6, 0, 7, 0, 8, 0, 9, 0).told(8), 420);
    }

    private static void toldOfWays() {
        promise = "promise 2 (ways)";
        FaceLetters x = net(100, 10, 10, 30, 10, 5, 10);
        due("greedy", x.told(10), 2);
        due("lost", x.told(11), 4);
        x.wake(1, false);
        due("greedy, one asleep", x.told(10), 2);
        due("lost, one asleep", x.told(11), 0);
        x = arch();
        due("arch, lost", x.told(11), 0);
        int greedy = 0;
        for (int s = 0; s < 7; s++) for (int t = 0; t < 7; t++) if (s != t && x.way(s, t, 0) == 0) greedy++;
        due("arch, greedy", x.told(10), greedy);
        due("arch, some otherwise", greedy < 42 ? 1 : 0, 1);
    }

    private static void atANode() {
        promise = "promise 3";
        FaceLetters x = net(200, 63, 0, 53, 0, 63, 10, 0, 63);
        due("x", x.at(0, 0), 63);
        due("y", x.at(0, 1), 0);
        due("x", x.at(3, 0), 0);
        due("y", x.at(3, 1), 63);
        due("awake", x.at(0, 2), 1);
        due("linked", x.at(1, 3), 1 | 4);
        due("thin, rule 0 at the edge", x.at(1, 4), 1);
        due("linked, alone", x.at(3, 3), 0);
        x.rule(1);
        due("thin, rule 1", x.at(1, 4), 1);
        x.wake(0, false);
        due("asleep", x.at(0, 2), 0);
        due("asleep, linked", x.at(0, 3), 0);
        due("asleep, thin", x.at(0, 4), 0);
        due("asleep, aims", x.at(0, 5), 0);
        due("asleep, x", x.at(0, 0), 63);
        due("thin once the one between sleeps", x.at(1, 4), 4);
        for (int v : new int[] {-1, 4, 32, Integer.MIN_VALUE, Integer.MAX_VALUE}) {
            due("at(" + v + ", 0)", x.at(v, 0), UNKNOWN);
            due("at(" + v + ", 6)", x.at(v, 6), UNKNOWN);
        }
        for (int what : new int[] {-1, 6, Integer.MIN_VALUE, Integer.MAX_VALUE}) due("at(0, " + what + ")", x.at(0, what), OUTSIDE);
    }

    private static void atWhereLettersGoAstray() {
        promise = "promise 3 (astray)";
        FaceLetters x = net(100, 10, 10, 30, 10, 5, 10);
        due("at(0, 5)", x.at(0, 5), 2);
        due("at(1, 5)", x.at(1, 5), 1 | 4);
        due("at(2, 5)", x.at(2, 5), 0);
        x.wake(2, false);
        due("at(1, 5), one aim asleep", x.at(1, 5), 1);
        x = net(100, 10, 10, 10, 20, 30, 15);
        due("one just as far is not nearer", x.at(0, 5), 4);
    }

    private static void farOfTwo() {
        promise = "promise 4";
        FaceLetters x = net(400, 0, 0, 63, 63, 3, 4);
        due("far(0, 1)", x.far(0, 1), 7938);
        due("far(1, 0)", x.far(1, 0), 7938);
        due("far(0, 2)", x.far(0, 2), 25);
        due("far(2, 2)", x.far(2, 2), 0);
        x.wake(0, false);
        due("far of one asleep", x.far(0, 2), 25);
        due("far(0, 3)", x.far(0, 3), UNKNOWN);
        due("far(-1, 0)", x.far(-1, 0), UNKNOWN);
        for (int v : NO_NODE_OF_10) due("far(" + v + ", " + v + ")", x.far(v, v), UNKNOWN);
    }

    private static void turningLeft() {
        promise = "promise 5";
        FaceLetters x = star();
        due("from east", x.turning(0, 1), 2);
        due("from north", x.turning(0, 2), 3);
        due("from west", x.turning(0, 3), 4);
        due("from south", x.turning(0, 4), 1);
        due("no other one", x.turning(1, 0), 0);
        due("from one not thin", x.turning(1, 2), 0);
        x.node(50, 30);
        due("one in just that direction", x.turning(0, 5), 1);
        x.wake(5, false);
        due("from one asleep", x.turning(0, 5), 1);
        due("at one asleep", x.turning(5, 0), NONE);
        x.wake(1, false);
        due("past one asleep", x.turning(0, 4), 2);
        due("all the way round", x.turning(0, 5), 2);
        x.move(5, 31, 43);
        x.wake(2, false);
        due("from just right of north", x.turning(0, 5), 3);
        x = net(100, 30, 30, 20, 30, 20, 36);
        due("half round", x.turning(0, 2), 1);
        due("none thin", net(1, 0, 0, 9, 9).turning(0, 1), NONE);
        due("the same", x.turning(1, 1), UNKNOWN);
        due("turning(0, 3)", x.turning(0, 3), UNKNOWN);
        due("turning(-1, 0)", x.turning(-1, 0), UNKNOWN);
        for (int v : NO_NODE_OF_10) due("turning(0, " + v + ")", x.turning(0, v), UNKNOWN);
    }

    private static void faceOfAWay() {
        promise = "promise 6";
        FaceLetters x = star();
        due("star", x.face(0, 1), 8);
        due("star", x.face(3, 0), 8);
        due("not thin", x.face(1, 2), NONE);
        due("the same", x.face(1, 1), UNKNOWN);
        for (int v : NO_NODE_OF_10) due("face(0, " + v + ")", x.face(0, v), UNKNOWN);
        x = net(100, 0, 0, 10, 0, 10, 10, 0, 10, 15, 0);
        due("round, inside (right of the way)", x.face(1, 0), 4);
        due("round, outside", x.face(0, 1), 6);
        due("the tail there", x.face(1, 4), 6);
        due("the tail back", x.face(4, 1), 6);
        x.wake(4, false);
        due("without the tail", x.face(0, 1), 4);
        due("asleep", x.face(1, 4), NONE);
        due("face(5, 0)", x.face(5, 0), UNKNOWN);
    }

    private static void dueWay(FaceLetters x, int s, int t, int... wants) {
        for (int what = 0; what < wants.length; what++) due("way(" + s + ", " + t + ", " + what + ")", x.way(s, t, what), wants[what]);
    }

    private static void wayThatComes() {
        promise = "promise 7";
        FaceLetters x = arch();
        dueWay(x, 0, 1, 1, 4, 1, 0, 2, 31);
        dueWay(x, 2, 4, 0, 2, 0, 0, 0, 4 | 8 | 16);
        dueWay(x, 3, 3, 0, 0, 0, 0, 0, 8);
        x = net(100, 0, 5, 6, 10, 6, 0, 12, 5);
        due("of like ones the least number", x.step(0, 3, 1), 1);
        x = net(100, 0, 5, 6, 0, 6, 10, 12, 5);
        due("of like ones the least number", x.step(0, 3, 1), 1);
        x = arch();
        for (int v : NO_NODE_OF_10) {
            due("way(0, " + v + ", 6)", x.way(0, v, 6), UNKNOWN);
            due("way(" + v + ", 0, 0)", x.way(v, 0, 0), UNKNOWN);
        }
        x.wake(0, false);
        due("from one asleep", x.way(0, 1, 0), NOT);
        due("to one asleep", x.way(1, 0, 5), NOT);
        due("way(0, 0, 0), asleep", x.way(0, 0, 0), NOT);
        for (int what : new int[] {-1, 6, Integer.MIN_VALUE, Integer.MAX_VALUE}) due("way(0, 1, " + what + ")", x.way(0, 1, what), OUTSIDE);
    }

    private static void wayThatIsLost() {
        promise = "promise 7 (lost)";
        FaceLetters x = net(100, 10, 10, 30, 10, 5, 10);
        dueWay(x, 0, 1, 2, 2, 1, 0, 2, 1 | 4);
        dueWay(x, 2, 1, 2, 3, 1, 0, 2, 1 | 4);
        dueWay(x, 1, 0, 2, 0, 1, 0, 0, 2);
    }

    private static void wayTurnsLeft() {
        promise = "promise 7 (turning left)";
        FaceLetters x = arch();
        dueWay(x, 1, 0, 1, 6, 1, 0, 4, 1 | 2 | 4 | 8 | 16 | 64);
        int[] path = {1, 6, 1, 4, 3, 2, 0, NONE};
        for (int i = 0; i < path.length; i++) due("step(1, 0, " + i + ")", x.step(1, 0, i), path[i]);
        x = net(100, 10, 10, 30, 10, 10, 20);
        due("not nearer than ENTRY: on round", x.way(0, 1, 1), 2);
    }

    private static void stepByStep() {
        promise = "promise 8";
        FaceLetters x = arch();
        int[] path = {0, 2, 3, 4, 1, NONE, NONE};
        for (int i = 0; i < path.length; i++) due("step(0, 1, " + i + ")", x.step(0, 1, i), path[i]);
        due("far behind", x.step(0, 1, 200), NONE);
        due("farther", x.step(0, 1, 201), NONE);
        due("farthest", x.step(0, 1, Integer.MAX_VALUE), NONE);
        due("step(3, 3, 0)", x.step(3, 3, 0), 3);
        due("step(3, 3, 1)", x.step(3, 3, 1), NONE);
        FaceLetters y = net(100, 10, 10, 30, 10, 5, 10);
        int[] lost = {2, 0, 2, 0, NONE};
        for (int i = 0; i < lost.length; i++) due("lost step(2, 1, " + i + ")", y.step(2, 1, i), lost[i]);
        FaceLetters z = net(18, 4, 7, 5, 6, 1, 11, 10, 14, 9, 6, 4, 22, 1, 18, 1, 21, 1, 9, 0, 14);
        due("the longest way that a search found", z.way(5, 3, 1), 48);
        due("its end", z.step(5, 3, 48) >= 0 ? 1 : 0, 1);
        due("behind its end", z.step(5, 3, 49), NONE);
        due("step(7, 0, -1)", x.step(7, 0, -1), UNKNOWN);
        due("step(0, -1, 0)", x.step(0, -1, 0), UNKNOWN);
        x.wake(1, false);
        due("step(0, 1, -1)", x.step(0, 1, -1), OUTSIDE);
        due("step(0, 1, MIN)", x.step(0, 1, Integer.MIN_VALUE), OUTSIDE);
        due("step(0, 1, 0)", x.step(0, 1, 0), NOT);
        due("step(1, 1, 0)", x.step(1, 1, 0), NOT);
    }

    private static void hopsOfTwo() {
        promise = "promise 9";
        FaceLetters x = arch();
        due("hops(0, 1)", x.hops(0, 1), 4);
        due("hops(5, 6)", x.hops(5, 6), 6);
        due("hops(2, 3)", x.hops(2, 3), 1);
        due("hops(2, 2)", x.hops(2, 2), 0);
        x.wake(3, false);
        due("cut off", x.hops(0, 1), NONE);
        due("asleep", x.hops(3, 3), NOT);
        due("asleep", x.hops(3, 0), NOT);
        due("asleep", x.hops(0, 3), NOT);
        due("hops(3, 7)", x.hops(3, 7), UNKNOWN);
        due("hops(-1, 3)", x.hops(-1, 3), UNKNOWN);
        due("nine", net(1, 0, 0, 1, 0, 2, 0, 3, 0, 4, 0, 5, 0, 6, 0, 7, 0, 8, 0, 9, 0).hops(0, 9), 9);
    }

    private static void nodeComes() {
        promise = "promise 10";
        FaceLetters x = new FaceLetters();
        due("node(0, 0)", x.node(0, 0), 0);
        due("node(63, 63)", x.node(63, 63), 1);
        due("node(0, 0)", x.node(0, 0), NOT);
        int[][] outside = {{64, 0}, {0, 64}, {-1, 0}, {0, -1}, {Integer.MAX_VALUE, 0}, {0, Integer.MIN_VALUE}};
        for (int[] at : outside) due("node(" + at[0] + ", " + at[1] + ")", x.node(at[0], at[1]), OUTSIDE);
        due("nodes", x.told(0), 2);
        due("undone", x.told(14), 2);
        x.wake(0, false);
        due("one asleep stands there too", x.node(0, 0), NOT);
        for (int i = 2; i < 10; i++) due("node " + i, x.node(i, 7), i);
        due("full", x.node(50, 50), FULL);
        due("full ahead of not", x.node(0, 0), FULL);
        due("outside ahead of full", x.node(64, 0), OUTSIDE);
        due("nodes", x.told(0), 10);
        due("awake as it comes", x.at(9, 2), 1);
    }

    private static void moveOfANode() {
        promise = "promise 11";
        FaceLetters x = net(400, 0, 0, 3, 4, 10, 10);
        due("move(0, 63, 63)", x.move(0, 63, 63), 7938);
        due("x", x.at(0, 0), 63);
        due("y", x.at(0, 1), 63);
        due("linked", x.at(1, 3), 4);
        due("another one there", x.move(0, 3, 4), NOT);
        due("where it stands", x.move(1, 3, 4), 0);
        due("that is a deed", x.told(14), 6);
        x.wake(1, false);
        due("one asleep moves", x.move(1, 3, 5), 1);
        due("and sleeps on", x.at(1, 2), 0);
        due("move(3, 64, 0)", x.move(3, 64, 0), UNKNOWN);
        due("move(-1, 0, 0)", x.move(-1, 0, 0), UNKNOWN);
        int[][] outside = {{64, 10}, {10, 64}, {-1, 10}, {10, -1}};
        for (int[] at : outside) due("move(0, " + at[0] + ", " + at[1] + ")", x.move(0, at[0], at[1]), OUTSIDE);
        due("undone", x.told(14), 8);
    }

    private static void wakeOfANode() {
        promise = "promise 12";
        FaceLetters x = net(400, 0, 0, 3, 4, 10, 10);
        due("wake(1, false)", x.wake(1, false), 2);
        due("wake(0, false)", x.wake(0, false), 1);
        due("again", x.wake(0, false), 1);
        due("wake(1, true)", x.wake(1, true), 2);
        due("again", x.wake(1, true), 2);
        due("each is a deed", x.told(14), 9);
        due("linked", x.at(1, 3), 4);
        for (int v : new int[] {-1, 3, 32, 33, Integer.MIN_VALUE}) due("wake(" + v + ", true)", x.wake(v, true), UNKNOWN);
        due("awake", x.told(1), 2);
    }

    private static void takeOfANode() {
        promise = "promise 13";
        FaceLetters x = net(400, 0, 0, 1, 1, 2, 2, 3, 3);
        x.wake(0, false);
        x.wake(2, false);
        due("take(1)", x.take(1), 3);
        int[] places = {0, 2, 3};
        int[] awake = {0, 0, 1};
        for (int v = 0; v < 3; v++) {
            due("x of " + v, x.at(v, 0), places[v]);
            due("awake " + v, x.at(v, 2), awake[v]);
        }
        due("awake", x.told(1), 1);
        due("take(3)", x.take(3), UNKNOWN);
        due("take(-1)", x.take(-1), UNKNOWN);
        due("take(2)", x.take(2), 2);
        due("take(0)", x.take(0), 1);
        due("take(0)", x.take(0), 0);
        due("take(0)", x.take(0), UNKNOWN);
        due("a new one is awake", x.node(5, 5), 0);
        due("a new one is awake", x.told(1), 1);
    }

    private static void reachChanges() {
        promise = "promise 14";
        FaceLetters x = new FaceLetters();
        due("reach(1)", x.reach(1), 400);
        due("reach(8000)", x.reach(8000), 1);
        due("reach(8000)", x.reach(8000), 8000);
        for (int v : new int[] {0, -1, 8001, Integer.MIN_VALUE, Integer.MAX_VALUE}) due("reach(" + v + ")", x.reach(v), OUTSIDE);
        due("reach", x.told(2), 8000);
        due("undone", x.told(14), 3);
    }

    private static void ruleChanges() {
        promise = "promise 15";
        FaceLetters x = net(400, 0, 0, 10, 0, 5, 8);
        due("thin by rule 0", x.told(5), 3);
        due("rule(1)", x.rule(1), 0);
        due("thin by rule 1", x.told(5), 2);
        x.move(2, 5, 9);
        due("two like ones stay by rule 1", x.told(5), 3);
        due("rule(1)", x.rule(1), 1);
        due("rule(0)", x.rule(0), 1);
        x.move(2, 0, 10);
        due("just on the circle by rule 0", x.told(5), 2);
        for (int v : new int[] {-1, 2, Integer.MIN_VALUE, Integer.MAX_VALUE}) due("rule(" + v + ")", x.rule(v), OUTSIDE);
        due("rule", x.told(3), 0);
        due("undone", x.told(14), 9);
    }

    private static int seedBehind(int draws, long seed) {
        for (int i = 0; i < draws; i++) seed = (seed * 1103515245L + 12345L) & 0x7fffffffL;
        return (int) seed;
    }

    private static void driftByDraws() {
        promise = "promise 16";
        FaceLetters x = new FaceLetters();
        x.seed(1);
        due("drift(2)", x.drift(2), 2);
        int[] places = {6, 62, 1, 43};
        for (int i = 0; i < 4; i++) due("place " + i, x.at(i / 2, i % 2), places[i]);
        due("seed", x.told(15), seedBehind(4, 1));
        due("each a deed", x.told(14), 2);
        due("awake", x.told(1), 2);
        x.seed(1);
        due("both stand there", x.drift(2), 2);
        due("no deeds", x.told(14), 2);
        due("drawn all the same", x.told(15), seedBehind(4, 1));
        for (int n : new int[] {0, -1, 11, Integer.MIN_VALUE, Integer.MAX_VALUE}) due("drift(" + n + ")", x.drift(n), OUTSIDE);
        x.seed(2147483647);
        due("the greatest seed", x.drift(1), 3);
        due("seed", x.told(15), seedBehind(2, 2147483647L));
        for (int i = 3; i < 9; i++) x.node(i, 0);
        x.seed(77);
        due("room for one", x.drift(10), 10);
        due("no more is drawn", x.told(15), seedBehind(2, 77));
        due("no room", x.drift(1), 10);
        due("nothing is drawn", x.told(15), seedBehind(2, 77));
        due("linked at once", x.told(4) > 0 ? 1 : 0, 1);
    }

    private static void undoOfDeeds() {
        promise = "promise 17";
        FaceLetters x = new FaceLetters();
        x.node(1, 1);
        x.node(2, 2);
        x.move(0, 5, 5);
        x.wake(1, false);
        x.take(0);
        x.reach(7);
        x.rule(1);
        x.seed(1);
        x.drift(2);
        x.write(0, 0, 0);
        due("before", x.told(14), 9);
        due("one of the drift", x.undo(1), 8);
        due("nodes", x.told(0), 2);
        due("the seed stays", x.told(15), seedBehind(4, 1));
        due("rule, reach", x.undo(3), 5);
        due("rule", x.told(3), 0);
        due("reach", x.told(2), 400);
        due("nodes", x.told(0), 1);
        due("take", x.undo(1), 4);
        due("nodes", x.told(0), 2);
        due("asleep", x.at(1, 2), 0);
        due("wake, move", x.undo(2), 2);
        due("awake", x.at(1, 2), 1);
        due("x", x.at(0, 0), 1);
        due("linked", x.told(4), 1);
        due("the book stays", x.told(12), 1);
        due("too many", x.undo(3), NOT);
        for (int n : new int[] {0, -1, 17, Integer.MIN_VALUE, Integer.MAX_VALUE}) due("undo(" + n + ")", x.undo(n), OUTSIDE);
        due("all", x.undo(2), 0);
        due("nodes", x.told(0), 0);
        due("none left", x.undo(1), NOT);
    }

    private static void undoKeepsSixteen() {
        promise = "promise 17 (sixteen)";
        FaceLetters x = new FaceLetters();
        for (int v = 1; v <= 20; v++) x.reach(v);
        due("kept", x.told(14), 16);
        due("undo(5)", x.undo(5), 11);
        due("reach", x.told(2), 15);
        x.reach(99);
        due("undo(2)", x.undo(2), 10);
        due("reach", x.told(2), 14);
        due("undo(11)", x.undo(11), NOT);
        due("undo(10)", x.undo(10), 0);
        due("reach", x.told(2), 4);
        for (int v = 1; v <= 40; v++) x.reach(v);
        due("undo(16)", x.undo(16), 0);
        due("reach", x.told(2), 24);
    }

    private static void writeInTheBook() {
        promise = "promise 18";
        FaceLetters x = arch();
        due("write(0, 1, 4)", x.write(0, 1, 4), 1);
        due("write(2, 2, 0)", x.write(2, 2, 0), 2);
        due("write(7, 0, 0)", x.write(7, 0, 0), UNKNOWN);
        due("write(0, -1, 0)", x.write(0, -1, 0), UNKNOWN);
        x.wake(0, false);
        due("one asleep", x.write(0, 0, Integer.MIN_VALUE), 3);
        for (int i = 4; i <= 20; i++) due("write", x.write(1, 1, Integer.MAX_VALUE), i);
        due("full", x.write(1, 1, 0), FULL);
        due("unknown ahead of full", x.write(1, 7, 0), UNKNOWN);
        due("entries", x.told(12), 20);
        due("no deed", x.told(14), 9);
    }

    private static void wrongEntries() {
        promise = "promise 18 (wrong)";
        FaceLetters x = arch();
        x.write(0, 1, 4);
        x.write(2, 2, 0);
        x.write(2, 6, x.way(2, 6, 1));
        due("none", x.told(13), NONE);
        x.wake(6, false);
        due("asleep", x.told(13), 2);
        x.undo(1);
        due("undone", x.told(13), NONE);
        x.take(6);
        due("no more there", x.told(13), 2);
        x.undo(1);
        x.reach(99);
        due("lost now", x.told(13), 0);
        x.undo(1);
        x.take(0);
        due("numbers stay as they were told", x.told(13), 0);
        x = net(100, 10, 10, 30, 10, 5, 10);
        x.write(0, 1, NONE);
        due("lost as told", x.told(13), NONE);
        x.write(0, 1, 2);
        due("steps of a lost one", x.told(13), 1);
        x.move(1, 20, 10);
        due("it comes now", x.told(13), 0);
    }

    private static void tearTheBook() {
        promise = "promise 19";
        FaceLetters x = arch();
        due("nothing", x.tear(), 0);
        x.write(0, 1, 9);
        x.write(0, 1, 4);
        due("two", x.tear(), 2);
        due("entries", x.told(12), 0);
        due("wrong", x.told(13), NONE);
        due("nothing", x.tear(), 0);
        due("anew", x.write(0, 1, 4), 1);
        due("wrong", x.told(13), NONE);
    }

    private static void seedChanges() {
        promise = "promise 20";
        FaceLetters x = new FaceLetters();
        due("seed(5)", x.seed(5), 0);
        due("seed(MAX)", x.seed(Integer.MAX_VALUE), 5);
        due("seed(-1)", x.seed(-1), OUTSIDE);
        due("seed(MIN)", x.seed(Integer.MIN_VALUE), OUTSIDE);
        due("seed", x.told(15), Integer.MAX_VALUE);
        due("seed(0)", x.seed(0), Integer.MAX_VALUE);
        due("no deed", x.told(14), 0);
    }

    private static void keepAnImage() {
        promise = "promise 21";
        FaceLetters x = arch();
        due("keep(0)", x.keep(0), 1);
        due("nothing can be undone", x.told(14), 0);
        due("undo(1)", x.undo(1), NOT);
        due("nodes stay", x.told(0), 7);
        x.take(0);
        due("since the image", x.told(14), 1);
        due("undo(1)", x.undo(1), 0);
        due("nodes", x.told(0), 7);
        x.reach(9);
        for (int i : new int[] {-1, 2, 32, Integer.MIN_VALUE, Integer.MAX_VALUE}) due("keep(" + i + ")", x.keep(i), UNKNOWN);
        due("undone", x.told(14), 1);
        due("keep(0) again", x.keep(0), 1);
        x.reach(11);
        x.goBack(0);
        due("the later one", x.told(2), 9);
    }

    private static void goBackToAnImage() {
        promise = "promise 22";
        FaceLetters x = arch();
        x.seed(8);
        x.keep(0);
        due("not kept", x.goBack(1), NOT);
        x.take(0);
        x.move(0, 40, 40);
        x.wake(1, false);
        x.reach(3);
        x.rule(1);
        x.seed(9);
        x.keep(1);
        x.drift(1);
        x.write(0, 0, 0);
        due("goBack(0)", x.goBack(0), 1);
        dueAll("as kept", x, 7, 7, 120, 0, 6, 6, 1, 1, 0, 12);
        due("seed", x.told(15), 8);
        due("nothing can be undone", x.told(14), 0);
        due("the book stays", x.told(12), 1);
        due("way", x.way(0, 1, 1), 4);
        due("goBack(1)", x.goBack(1), 1);
        due("reach", x.told(2), 3);
        due("rule", x.told(3), 1);
        due("nodes", x.told(0), 6);
        due("awake", x.told(1), 5);
        due("seed", x.told(15), 9);
        due("x", x.at(0, 0), 40);
        x.take(0);
        due("goBack(1)", x.goBack(1), 1);
        due("again as kept", x.at(0, 0), 40);
        for (int i : new int[] {-1, 2, 32, 33, Integer.MIN_VALUE}) due("goBack(" + i + ")", x.goBack(i), UNKNOWN);
    }
}
