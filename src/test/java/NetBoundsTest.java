/** Each sentence of the terms and of sections 1 and 2, and of what is asked of the net, that names a boundary: a test of its own. */
public final class NetBoundsTest {
    private static final int NONE = Due.NONE, UNKNOWN = Due.UNKNOWN, OUTSIDE = Due.OUTSIDE, NOT = Due.NOT, FULL = Due.FULL;
    private static final int CALLS = 512;

    public static void main(String[] args) {
        terms();
        nodes();
        net();
        turns();
        faces();
        ways();
        shares();
        asked();
        Due.end();
    }

    private static void terms() {
        usedForFiveHundredAndTwelveCalls();
        numbersFromNought();
        bitKForK();
        refusalsFarBelow();
        oneTwice();
        refusalsInTheirOrder();
    }

    private static void usedForFiveHundredAndTwelveCalls() {
        Due.says("An object is used for at most 512 calls after it has been made");
        FaceLetters x = new FaceLetters();
        for (int i = 1; i < CALLS; i++) Due.is("reach(" + i + "), call " + i, x.reach(i), i == 1 ? 400 : i - 1);
        Due.is("undo(16), call 512", x.undo(16), 0);
        x = new FaceLetters();
        for (int i = 1; i < CALLS; i++) x.drift(10);
        Due.is("told(0), call 512", x.told(0), 10);
        // Later answers are free, but LANGUAGE.md wants that no call ever throws.
        for (int i = 0; i < 3000; i++) {
            x.take(i % 12);
            x.drift(i % 12);
            x.write(0, 1, i);
            x.keep(i % 3);
            x.told(i % 17);
            x.goBack(i % 3);
        }
    }

    private static void numbersFromNought() {
        Due.says("What has a number has it from 0 on");
        FaceLetters x = new FaceLetters();
        Due.is("the first NODE", x.node(9, 9), 0);
        Due.is("the second", x.node(9, 8), 1);
        Due.is("the first image", x.keep(0), 1);
        x.write(0, 0, 7);
        Due.is("the first entry, WRONG", x.told(13), 0);
        Due.is("behind 0 STEPS", x.step(0, 1, 0), 0);
    }

    private static void bitKForK() {
        Due.says("A SET is a whole number, bit k for k");
        FaceLetters x = Due.row(10);
        Due.is("LINKED with the first", x.at(0, 3), 2);
        Due.is("LINKED with the last", x.at(9, 3), 256);
        Due.is("LINKED with the last but one", x.at(8, 3), 128 + 512);
        Due.is("THIN with the first", x.at(0, 4), 2);
        Due.is("THIN with the last but one", x.at(8, 4), 128 + 512);
        Due.is("where it stood, all ten", x.way(0, 9, 5), 1023);
        Due.is("where it stood, the last", x.way(9, 9, 5), 512);
        for (int v = 0; v < 10; v++) x.move(v, 7 * v, 9);
        Due.is("astray from the first", x.at(0, 5), 1022);
        Due.is("astray from the last", x.at(9, 5), 511);
        Due.is("LINKED with none", x.at(9, 3), 0);
    }

    private static void refusalsFarBelow() {
        Due.says("NONE is -1; -1000000001 and on");
        Due.is("NONE", FaceLetters.NONE, -1);
        Due.is("UNKNOWN", FaceLetters.UNKNOWN, -1000000001);
        Due.is("OUTSIDE", FaceLetters.OUTSIDE, -1000000002);
        Due.is("NOT", FaceLetters.NOT, -1000000003);
        Due.is("FULL", FaceLetters.FULL, -1000000004);
    }

    private static void oneTwice() {
        Due.says("UNKNOWN (.. one twice, where two are asked)");
        FaceLetters x = Due.row(2);
        Due.is("turning(0, 0)", x.turning(0, 0), UNKNOWN);
        Due.is("turning(1, 1)", x.turning(1, 1), UNKNOWN);
        Due.is("face(0, 0)", x.face(0, 0), UNKNOWN);
        Due.is("face(1, 1)", x.face(1, 1), UNKNOWN);
        Due.says("(perhaps the same)");
        Due.is("far(1, 1)", x.far(1, 1), 0);
        Due.is("way(1, 1, 0)", x.way(1, 1, 0), 0);
        Due.is("step(1, 1, 0)", x.step(1, 1, 0), 1);
        Due.is("hops(1, 1)", x.hops(1, 1), 0);
        Due.is("write(1, 1, 0)", x.write(1, 1, 0), 1);
    }

    private static void refusalsInTheirOrder() {
        Due.says("REFUSALS, of several the first in this order: UNKNOWN, OUTSIDE, NOT, FULL");
        FaceLetters x = Due.row(10);
        x.wake(9, false);
        for (int i = 0; i < 20; i++) x.write(0, 0, 0);
        Due.is("UNKNOWN and OUTSIDE: at", x.at(10, 6), UNKNOWN);
        Due.is("UNKNOWN and OUTSIDE: move", x.move(10, 64, 0), UNKNOWN);
        Due.is("UNKNOWN and NOT: move", x.move(10, 0, 0), UNKNOWN);
        Due.is("UNKNOWN and NOT: hops", x.hops(9, 10), UNKNOWN);
        Due.is("UNKNOWN and NOT: hops", x.hops(10, 9), UNKNOWN);
        Due.is("UNKNOWN, OUTSIDE and NOT: way", x.way(10, 9, 6), UNKNOWN);
        Due.is("UNKNOWN, OUTSIDE and NOT: way", x.way(9, 10, -1), UNKNOWN);
        Due.is("UNKNOWN, OUTSIDE and NOT: step", x.step(10, 9, -1), UNKNOWN);
        Due.is("UNKNOWN, OUTSIDE and NOT: step", x.step(9, 10, -1), UNKNOWN);
        Due.is("OUTSIDE and NOT: way", x.way(9, 0, 6), OUTSIDE);
        Due.is("OUTSIDE and NOT: way", x.way(0, 9, -1), OUTSIDE);
        Due.is("OUTSIDE and NOT: step", x.step(9, 9, -1), OUTSIDE);
        Due.is("OUTSIDE and NOT: undo", x.undo(17), OUTSIDE);
        Due.is("OUTSIDE and FULL: node", x.node(0, 64), OUTSIDE);
        Due.is("UNKNOWN and FULL: write", x.write(10, 0, 0), UNKNOWN);
        Due.is("UNKNOWN and FULL: write", x.write(0, -1, 0), UNKNOWN);
        Due.says("FULL (10; ahead of NOT)");
        Due.is("FULL and NOT: node", x.node(0, 0), FULL);
        Due.says("UNKNOWN, NOT: it was not kept");
        Due.is("UNKNOWN, where none was kept: goBack", x.goBack(2), UNKNOWN);
    }

    private static void nodes() {
        noneAtFirst();
        tenAtMost();
        laterOnesHaveOneNumberLess();
        placesToSixtyThree();
        noTwoAtOnePlace();
        awakeAsItComes();
        farOfTwo();
    }

    private static void noneAtFirst() {
        Due.says("NODES (.. none at first); REACH (400 at first); RULE (0 at first); THE SEED (0 at first)");
        FaceLetters x = new FaceLetters();
        Due.told(x, 0, 0, 0, 400, 0, 0, 0, 0, 0, 0, 0, 0, 0, 0, NONE, 0, 0);
        Due.is("at(0, 0)", x.at(0, 0), UNKNOWN);
        Due.is("far(0, 0)", x.far(0, 0), UNKNOWN);
        Due.is("goBack(0)", x.goBack(0), NOT);
        Due.is("goBack(1)", x.goBack(1), NOT);
        Due.is("undo(1)", x.undo(1), NOT);
        Due.is("tear()", x.tear(), 0);
    }

    private static void tenAtMost() {
        Due.says("NODES (10 at most)");
        FaceLetters x = new FaceLetters();
        for (int v = 0; v < 10; v++) Due.is("node " + v, x.node(v, v), v);
        Due.is("the eleventh", x.node(20, 20), FULL);
        Due.told(x, 0, 10, 10);
        Due.is("the tenth is there", x.at(9, 0), 9);
        Due.is("one goes", x.take(4), 9);
        Due.is("one comes again", x.node(20, 20), 9);
        Due.is("the eleventh", x.node(21, 21), FULL);
        Due.is("undone", x.undo(1), 11);
        Due.is("and one comes again", x.node(22, 22), 9);
        Due.is("the eleventh by draws", x.drift(1), 10);
    }

    private static void laterOnesHaveOneNumberLess() {
        Due.says("numbered as they came (if one goes, later ones have one number less)");
        for (int gone = 0; gone < 10; gone++) {
            FaceLetters x = Due.row(10);
            for (int v = 1; v < 10; v += 3) x.wake(v, false);
            Due.is("take(" + gone + ")", x.take(gone), 9);
            for (int v = 0; v < 9; v++) {
                int was = v < gone ? v : v + 1;
                Due.is("x of " + v + " behind take(" + gone + ")", x.at(v, 0), was);
                Due.is("AWAKE " + v + " behind take(" + gone + ")", x.at(v, 2), was % 3 == 1 ? 0 : 1);
            }
            Due.is("at(9, 0)", x.at(9, 0), UNKNOWN);
            Due.is("how many are AWAKE", x.told(1), gone % 3 == 1 ? 7 : 6);
            Due.is("the next has the last number", x.node(40, 40), 9);
            Due.is("and is AWAKE", x.at(9, 2), 1);
        }
    }

    private static void placesToSixtyThree() {
        Due.says("at a place x, y (0 .. 63 each)");
        int[][] corners = {{0, 0}, {63, 0}, {0, 63}, {63, 63}};
        FaceLetters x = new FaceLetters();
        for (int i = 0; i < 4; i++) {
            Due.is("a corner", x.node(corners[i][0], corners[i][1]), i);
            Due.is("its x", x.at(i, 0), corners[i][0]);
            Due.is("its y", x.at(i, 1), corners[i][1]);
        }
        int[][] beyond = {{-1, 5}, {64, 5}, {5, -1}, {5, 64}, {Due.LEAST, 5}, {Due.GREATEST, 5}, {5, Due.LEAST}, {5, Due.GREATEST}, {64, 64}, {-1, -1}};
        for (int[] place : beyond) {
            Due.is("node(" + place[0] + ", " + place[1] + ")", x.node(place[0], place[1]), OUTSIDE);
            Due.is("move(0, " + place[0] + ", " + place[1] + ")", x.move(0, place[0], place[1]), OUTSIDE);
        }
        Due.told(x, 0, 4);
        Due.is("x of 0", x.at(0, 0), 0);
        x.node(30, 30);
        for (int i = 3; i >= 0; i--) {
            x.take(i);
            x.move(x.told(0) - 1, corners[i][0], corners[i][1]);
            Due.is("x behind move()", x.at(x.told(0) - 1, 0), corners[i][0]);
            Due.is("y behind move()", x.at(x.told(0) - 1, 1), corners[i][1]);
        }
    }

    private static void noTwoAtOnePlace() {
        Due.says("no two at one place");
        FaceLetters x = new FaceLetters();
        x.node(3, 4);
        Due.is("the same place", x.node(3, 4), NOT);
        Due.is("the same x", x.node(3, 5), 1);
        Due.is("the same y", x.node(4, 4), 2);
        Due.is("x and y the other way round", x.node(4, 3), 3);
        Due.is("move to the first", x.move(3, 3, 4), NOT);
        Due.is("move to the last", x.move(0, 4, 3), NOT);
        x.wake(0, false);
        Due.is("one asleep stands there, too", x.node(3, 4), NOT);
        Due.is("one asleep stands there, too", x.move(1, 3, 4), NOT);
        Due.is("one moves", x.move(0, 9, 9), 36 + 25);
        Due.is("where it stood is free", x.node(3, 4), 4);
        x.take(1);
        Due.is("where one was that went is free", x.move(0, 3, 5), 36 + 16);
        x.undo(1);
        Due.is("where one stands again is not", x.node(9, 9), NOT);
    }

    private static void awakeAsItComes() {
        Due.says("AWAKE or not (AWAKE as it comes)");
        FaceLetters x = new FaceLetters();
        x.node(1, 1);
        x.wake(0, false);
        x.take(0);
        Due.is("with a number whose last NODE slept", x.node(2, 2), 0);
        Due.is("AWAKE", x.at(0, 2), 1);
        x.wake(0, false);
        x.take(0);
        x.drift(1);
        Due.is("AWAKE, by draws", x.at(0, 2), 1);
        for (int i = 0; i < 9; i++) x.node(i, 0);
        x.wake(9, false);
        x.take(9);
        x.node(60, 60);
        Due.is("AWAKE, the tenth", x.at(9, 2), 1);
        x.wake(9, false);
        x.move(9, 61, 61);
        Due.is("moved, it sleeps on", x.at(9, 2), 0);
    }

    private static void farOfTwo() {
        Due.says("FAR, of two: the square of x less x and that of y less y, together");
        FaceLetters x = Due.net(400, 0, 0, 63, 63, 0, 63, 63, 0, 1, 0, 0, 1);
        Due.is("corner to corner", x.far(0, 1), 7938);
        Due.is("and back", x.far(1, 0), 7938);
        Due.is("the other corners", x.far(2, 3), 7938);
        Due.is("along a side", x.far(0, 2), 3969);
        Due.is("the nearest", x.far(0, 4), 1);
        Due.is("the nearest", x.far(5, 0), 1);
        Due.is("the next nearest", x.far(4, 5), 2);
        Due.is("the same", x.far(1, 1), 0);
        Due.is("move() over all", x.move(4, 62, 63), 61 * 61 + 63 * 63);
        x.take(1);
        Due.is("move() over all", x.move(0, 63, 63), 7938);
    }

    private static void net() {
        reachBounds();
        linkedNoMoreThanReach();
        thinByRuleNought();
        thinByRuleOne();
        partsOfAwakeOnes();
    }

    private static void reachBounds() {
        Due.says("REACH 1 .. 8000");
        FaceLetters x = new FaceLetters();
        Due.is("reach(0)", x.reach(0), OUTSIDE);
        Due.is("reach(8001)", x.reach(8001), OUTSIDE);
        Due.is("reach(1)", x.reach(1), 400);
        Due.is("reach(8000)", x.reach(8000), 1);
        Due.is("reach(0)", x.reach(0), OUTSIDE);
        Due.is("reach(8001)", x.reach(8001), OUTSIDE);
        Due.told(x, 2, 8000);
    }

    private static void linkedNoMoreThanReach() {
        Due.says("LINKED are two AWAKE NODES that are FAR no more than REACH");
        FaceLetters x = new FaceLetters();
        x.node(0, 0);
        x.node(20, 0);
        Due.is("just 400 at first", x.told(4), 1);
        x.move(1, 20, 1);
        Due.is("401 at first", x.told(4), 0);
        x = Due.net(1, 0, 0, 1, 0, 0, 1);
        Due.is("FAR 1 by REACH 1, FAR 2 not", x.told(4), 2);
        x.reach(2);
        Due.is("FAR 2 by REACH 2", x.told(4), 3);
        x = Due.net(7938, 0, 0, 63, 63);
        Due.is("all over", x.at(0, 3), 2);
        x.reach(7937);
        Due.is("one less", x.at(0, 3), 0);
        x.reach(8000);
        Due.is("the greatest REACH", x.at(1, 3), 1);
        x.wake(0, false);
        Due.is("the first asleep", x.at(1, 3), 0);
        Due.is("of one asleep", x.at(0, 3), 0);
        x.wake(0, true);
        x.wake(1, false);
        Due.is("the second asleep", x.told(4), 0);
        x.wake(1, true);
        Due.is("both AWAKE again", x.told(4), 1);
        Due.is("none with itself", x.at(0, 3), 2);
    }

    private static FaceLetters threeWith(int rule, int x, int y) {
        FaceLetters net = Due.net(100, 0, 0, 10, 0, x, y);
        net.rule(rule);
        return net;
    }

    private static void thinByRuleNought() {
        Due.says("0: there is no other AWAKE NODE w, so that FAR of u, w and of w, v together is no more than that of u, v");
        Due.is("together just as FAR", threeWith(0, 5, 5).at(0, 4), 4);
        Due.is("together just as FAR, nearer to one", threeWith(0, 2, 4).at(0, 4), 4);
        Due.is("together 2 more", threeWith(0, 4, 5).at(0, 4), 2 + 4);
        Due.is("together less", threeWith(0, 5, 4).at(0, 4), 4);
        Due.is("in the midst of both", threeWith(0, 5, 0).at(0, 4), 4);
        Due.is("one more than REACH", Due.net(99, 0, 0, 10, 0).at(0, 4), 0);
        FaceLetters x = threeWith(0, 5, 5);
        x.wake(2, false);
        Due.is("w asleep", x.at(0, 4), 2);
        Due.is("w with the least number", Due.net(100, 5, 5, 0, 0, 10, 0).at(1, 4), 1);
        Due.is("w with a number between", Due.net(100, 0, 0, 5, 5, 10, 0).at(0, 4), 2);
        Due.is("w with the tenth number", Due.net(100, 0, 0, 10, 0, 60, 0, 60, 9, 60, 19, 60, 29, 60, 39, 60, 49, 60, 59, 5, 5).at(0, 4), 512);
        Due.says("RULE (0 at first)");
        x = Due.net(100, 0, 0, 10, 0, 6, 7);
        Due.is("THIN by RULE 0 alone", x.at(0, 4), 2 + 4);
        x.rule(1);
        Due.is("not by RULE 1", x.at(0, 4), 4);
    }

    private static void thinByRuleOne() {
        Due.says("1: there is none, so that FAR of u, w and FAR of w, v are both less than that of u, v");
        Due.is("w just as FAR from u", threeWith(1, 6, 8).at(0, 4) & 2, 2);
        Due.is("w just as FAR from v", threeWith(1, 4, 8).at(0, 4) & 2, 2);
        Due.is("both less", threeWith(1, 6, 7).at(0, 4) & 2, 0);
        Due.is("both less", threeWith(1, 5, 8).at(0, 4) & 2, 0);
        Due.is("both more", threeWith(1, 5, 9).at(0, 4) & 2, 2);
        FaceLetters x = threeWith(1, 6, 7);
        x.wake(2, false);
        Due.is("w asleep", x.at(0, 4), 2);
        x.reach(99);
        Due.is("not LINKED", x.at(0, 4), 0);
    }

    private static void partsOfAwakeOnes() {
        Due.says("PARTS: heaps of AWAKE NODES that hang together by LINKED ones");
        FaceLetters x = Due.row(10);
        Due.is("one", x.told(7), 1);
        x.wake(9, false);
        Due.is("the last asleep", x.told(7), 1);
        x.wake(4, false);
        Due.is("the midst asleep", x.told(7), 2);
        for (int v = 0; v < 10; v += 2) x.wake(v, false);
        x.wake(9, true);
        Due.is("five, each alone", x.told(7), 5);
        for (int v = 1; v < 10; v += 2) x.wake(v, false);
        Due.is("all asleep", x.told(7), 0);
        for (int v = 0; v < 10; v++) {
            x.wake(v, true);
            x.move(v, 2 * v, 5);
        }
        Due.is("ten, each alone", x.told(7), 10);
    }

    /** 0 in the midst of nine others just as FAR, each THIN with it, numbered as one turns left from the first. */
    private static FaceLetters fan() {
        return Due.net(25, 30, 30, 35, 30, 34, 33, 33, 34, 30, 35, 26, 33, 25, 30, 26, 27, 30, 25, 34, 27);
    }

    private static void turns() {
        turnLeast();
        turnLessThanAllRound();
        turnNotAtAll();
        turnHalfRound();
        turnNotByNearness();
        turnElseV();
    }

    private static void turnLeast() {
        Due.says("TURNING LEFT .. the first of some other NODES is the one to which one has to turn least");
        FaceLetters x = fan();
        Due.is("all nine are THIN", x.at(0, 4), 1022);
        for (int v = 1; v < 10; v++) Due.is("turning(0, " + v + ")", x.turning(0, v), v % 9 + 1);
    }

    private static void turnLessThanAllRound() {
        Due.says("(less than all round ..)");
        FaceLetters x = Due.net(101, 30, 30, 20, 31, 20, 29);
        Due.is("both THIN", x.at(0, 4), 6);
        Due.is("a little left", x.turning(0, 1), 2);
        Due.is("nearly all round", x.turning(0, 2), 1);
        x.node(63, 63);
        x.wake(3, false);
        for (int[] place : new int[][] {{40, 30}, {20, 30}, {30, 40}, {30, 20}}) {
            x.move(3, place[0], place[1]);
            Due.is("from " + place[0] + ", " + place[1], x.turning(0, 3), place[0] == 20 ? 2 : 1);
        }
        x.move(3, 0, 33);
        Due.is("from just that direction", x.turning(0, 3), 1);
        x.move(3, 0, 32);
        Due.is("from a little left of it", x.turning(0, 3), 2);
        x.move(3, 0, 34);
        Due.is("from a little right of it", x.turning(0, 3), 1);
        x.move(3, 0, 26);
        Due.is("from a little left of the last: nearly all round", x.turning(0, 3), 1);
        x = Due.net(101, 30, 30, 40, 29, 30, 40, 31, 30);
        x.wake(3, false);
        Due.is("by the least turn to the right", x.turning(0, 3), 2);
        x.wake(2, false);
        Due.is("none but that one", x.turning(0, 3), 1);
    }

    private static void turnNotAtAll() {
        Due.says("one in just that direction: not at all");
        FaceLetters x = Due.net(25, 30, 30, 35, 30, 34, 33, 34, 27, 63, 63);
        x.wake(4, false);
        x.move(4, 60, 30);
        Due.is("just that direction, nearer", x.turning(0, 4), 1);
        x.move(4, 32, 30);
        Due.is("just that direction, farther", x.turning(0, 4), 1);
        x.move(4, 38, 36);
        Due.is("just that direction, slanting", x.turning(0, 4), 2);
        x.move(4, 38, 24);
        Due.is("just that direction, slanting down", x.turning(0, 4), 3);
        x.move(4, 60, 31);
        Due.is("a little left of it", x.turning(0, 4), 2);
        x.move(4, 60, 29);
        Due.is("a little right of it", x.turning(0, 4), 1);
        Due.is("v itself is not meant", x.turning(0, 1), 2);
        int[][] ways = {{1, 0}, {0, 1}, {-1, 0}, {0, -1}, {1, 1}, {-1, 1}, {-1, -1}, {1, -1}};
        for (int[] way : ways) {
            x = Due.net(100, 30, 30, 30 - way[0], 30 - way[1], 30 + 2 * way[0], 30 + 2 * way[1], 30 + way[0], 30 + way[1]);
            x.wake(3, false);
            Due.is("just that direction ahead of a nearer one just behind", x.turning(0, 3), 2);
            x.wake(2, false);
            Due.is("the one just behind", x.turning(0, 3), 1);
        }
    }

    private static void turnHalfRound() {
        Due.says("TURNING LEFT: just half round comes behind less, ahead of more");
        FaceLetters x = fan();
        x.wake(2, false);
        x.wake(3, false);
        x.wake(4, false);
        Due.is("less than half", x.turning(0, 1), 5);
        x.wake(5, false);
        Due.is("just half", x.turning(0, 1), 6);
        x.wake(6, false);
        Due.is("more than half", x.turning(0, 1), 7);
        Due.is("across", x.turning(0, 7), 8);
        x.wake(7, false);
        x.wake(8, false);
        Due.is("nearly all", x.turning(0, 1), 9);
        x.wake(6, true);
        x.wake(9, false);
        Due.is("half from the right", x.turning(0, 1), 6);
        Due.is("half from the left", x.turning(0, 6), 1);
    }

    private static void turnNotByNearness() {
        Due.says("the one to which one has to turn least .. of like directions the nearest");
        dueFirst("just as near", 31, 30, 30, 31, 31, 29);
        dueFirst("the first of them farther", 31, 29, 30, 31, 31, 28);
        dueFirst("the first of them nearer", 32, 30, 30, 33, 31, 29);
        dueFirst("the first of them farther", 33, 30, 30, 32, 31, 29);
    }

    /** Of two places, seen from 30, 30 and a third one: the first, whichever has the lower number. */
    private static void dueFirst(String what, int... places) {
        FaceLetters x = Due.net(100, 30, 30, places[0], places[1], places[2], places[3], places[4], places[5]);
        x.wake(3, false);
        Due.is(what, x.turning(0, 3), 1);
        x = Due.net(100, 30, 30, places[2], places[3], places[0], places[1], places[4], places[5]);
        x.wake(3, false);
        Due.is(what + ", with the higher number", x.turning(0, 3), 2);
    }

    private static void turnElseV() {
        Due.says("if there is another one, else v, if that is THIN with it; NONE");
        FaceLetters x = Due.row(3);
        Due.is("no other one", x.turning(0, 1), 1);
        Due.is("another one, v not THIN", x.turning(0, 2), 1);
        Due.is("another one", x.turning(1, 0), 2);
        x.wake(1, false);
        Due.is("none THIN", x.turning(0, 2), NONE);
        Due.is("none THIN, v asleep", x.turning(0, 1), NONE);
        Due.is("at one asleep", x.turning(1, 0), NONE);
    }

    private static void faces() {
        nodesWithoutAFace();
        deadEnds();
        rings();
    }

    private static void nodesWithoutAFace() {
        Due.says("(A NODE without a THIN one has none.); the greatest FACE (how many ways; 0)");
        FaceLetters x = Due.net(1, 0, 0, 9, 9, 20, 20);
        Due.told(x, 5, 0, 0);
        Due.told(x, 9, 0);
        Due.is("face(0, 1)", x.face(0, 1), NONE);
        x.node(20, 21);
        Due.told(x, 5, 1, 1);
        Due.told(x, 9, 2);
        x.wake(3, false);
        Due.told(x, 5, 0, 0);
        Due.told(x, 9, 0);
    }

    private static void deadEnds() {
        Due.says("that is not u, if there is another one, else u");
        for (int n = 2; n <= 10; n++) {
            FaceLetters x = Due.row(n);
            Due.told(x, 5, n - 1, 1);
            Due.told(x, 9, 2 * n - 2);
            Due.is("face(0, 1) of " + n, x.face(0, 1), 2 * n - 2);
            Due.is("face back of " + n, x.face(n - 1, n - 2), 2 * n - 2);
        }
        FaceLetters star = Due.net(100, 30, 30, 40, 30, 30, 40, 20, 30, 30, 20);
        Due.told(star, 5, 4, 1);
        Due.told(star, 9, 8);
    }

    private static void rings() {
        Due.says("FACES: of all ways along a THIN pair (two for each pair)");
        FaceLetters x = Due.net(2, 11, 10, 12, 10, 13, 11, 14, 12, 14, 13, 13, 14, 12, 14, 11, 13, 10, 12, 10, 11);
        Due.told(x, 5, 10, 2);
        Due.told(x, 9, 10);
        Due.is("inside", x.face(1, 0), 10);
        Due.is("outside", x.face(0, 1), 10);
        Due.is("not THIN, over the ring", x.face(0, 5), NONE);
        x.wake(9, false);
        Due.told(x, 5, 8, 1);
        Due.told(x, 9, 16);
        Due.is("the ring broken", x.face(0, 1), 16);
        Due.is("at the one asleep", x.face(9, 0), NONE);
    }

    private static void ways() {
        fromAnAimToItself();
        nearerThanWhereItStands();
        theLeastNumberOfLikeOnes();
        lostAtOnce();
        greedyAgainOnlyIfNearer();
        lostWhereItStoodBefore();
        endsAtItsAim();
        stepsThatItHas();
        astrayAtOnce();
    }

    private static void fromAnAimToItself() {
        Due.says("THE WAY from s to t (perhaps the same)");
        FaceLetters x = Due.row(10);
        Due.way(x, 0, 0, 0, 0, 0, 0, 0, 1);
        Due.way(x, 9, 9, 0, 0, 0, 0, 0, 512);
        Due.steps(x, 9, 9, 9, NONE, NONE);
        x.reach(8000);
        Due.way(x, 9, 9, 0, 0, 0, 0, 0, 512);
        Due.way(x, 9, 0, 0, 1, 0, 0, 0, 513);
    }

    private static void nearerThanWhereItStands() {
        Due.says("if of all LINKED with u there are some less FAR from t than u");
        FaceLetters x = Due.net(121, 10, 10, 10, 20, 30, 15);
        Due.is("just as FAR: ASTRAY at once", x.at(0, 5), 4);
        Due.is("just as FAR: ASTRAY", x.way(0, 2, 2), 1);
        x.move(1, 10, 19);
        Due.is("less FAR", x.at(0, 5), 0);
        Due.is("less FAR: it goes there GREEDY", x.step(0, 2, 1), 1);
        Due.is("and ASTRAY there", x.at(1, 5), 4);
        x.move(1, 10, 21);
        Due.is("more FAR", x.at(0, 5), 4);
    }

    private static void theLeastNumberOfLikeOnes() {
        Due.says("it goes to the least FAR one (of like ones the least number)");
        FaceLetters x = Due.net(100, 0, 5, 6, 10, 6, 0, 12, 5);
        Due.steps(x, 0, 3, 0, 1, 3, NONE);
        x = Due.net(100, 0, 5, 6, 0, 6, 10, 12, 5);
        Due.steps(x, 0, 3, 0, 1, 3, NONE);
        x = Due.net(100, 0, 5, 6, 0, 6, 10, 12, 5, 7, 9);
        Due.steps(x, 0, 3, 0, 4, 3, NONE);
        x = Due.net(100, 12, 5, 0, 5, 7, 1, 6, 10, 7, 9);
        Due.steps(x, 1, 0, 1, 2, 0, NONE);
    }

    private static void lostAtOnce() {
        Due.says("(if there is none, it is LOST)");
        FaceLetters x = Due.net(1, 0, 0, 63, 63);
        Due.way(x, 0, 1, 2, 0, 1, 0, 0, 1);
        Due.steps(x, 0, 1, 0, NONE);
        Due.told(x, 10, 0, 2);
        Due.is("hops(0, 1)", x.hops(0, 1), NONE);
        x.write(0, 1, NONE);
        Due.is("NONE: LOST, as told", x.told(13), NONE);
    }

    private static void greedyAgainOnlyIfNearer() {
        Due.says("there it is GREEDY again, if it is less FAR from t than ENTRY");
        FaceLetters x = Due.net(100, 10, 10, 30, 15, 10, 20);
        Due.way(x, 0, 1, 2, 2, 1, 0, 2, 1 + 4);
        x = Due.net(100, 10, 10, 30, 15, 10, 20, 18, 22, 27, 24);
        Due.way(x, 0, 1, 1, 4, 1, 0, 2, 31);
        x.move(2, 10, 19);
        Due.is("less FAR: it was never ASTRAY", x.way(0, 1, 0), 0);
        x.move(2, 9, 19);
        Due.is("more FAR: on round", x.way(0, 1, 4), 2);
    }

    private static void lostWhereItStoodBefore() {
        Due.says("It is LOST, if it stands at a NODE, round FACES, with ENTRY, SHARE, NEXT as they were there once before");
        FaceLetters x = Due.net(1, 0, 0, 1, 0, 63, 63);
        Due.way(x, 0, 2, 2, 3, 1, 0, 2, 3);
        Due.steps(x, 0, 2, 0, 1, 0, 1, NONE);
        Due.way(x, 1, 2, 2, 2, 1, 0, 2, 3);
        Due.steps(x, 1, 2, 1, 0, 1, NONE);
        x = new FaceLetters();
        for (int v = 0; v < 9; v++) x.node(v, 0);
        x.node(63, 0);
        x.reach(1);
        Due.way(x, 8, 9, 2, 16, 1, 0, 16, 511);
        Due.way(x, 0, 9, 2, 24, 1, 0, 16, 511);
        Due.is("where it is known to be LOST", x.step(0, 9, 24), 8);
        Due.is("and no STEP more", x.step(0, 9, 25), NONE);
    }

    private static void endsAtItsAim() {
        Due.says("It ends at t");
        FaceLetters x = Due.row(10);
        Due.way(x, 0, 4, 0, 4, 0, 0, 0, 31);
        Due.steps(x, 0, 4, 0, 1, 2, 3, 4, NONE);
        x = Due.net(120, 10, 10, 30, 10, 10, 20, 20, 24, 30, 20);
        Due.way(x, 0, 1, 1, 4, 1, 0, 2, 31);
        Due.steps(x, 0, 1, 0, 2, 3, 4, 1, NONE);
    }

    private static void stepsThatItHas() {
        Due.says("NONE: it has not so many");
        FaceLetters x = Due.row(10);
        for (int t = 0; t < 10; t++) {
            Due.is("the last STEP to " + t, x.step(0, t, t), t);
            Due.is("behind it", x.step(0, t, t + 1), NONE);
            Due.is("STEPS to " + t, x.way(0, t, 1), t);
        }
        for (int i : new int[] {199, 200, 201, 256, Due.GREATEST}) Due.is("step(0, 9, " + i + ")", x.step(0, 9, i), NONE);
    }

    private static void astrayAtOnce() {
        Due.says("(0, if it is not AWAKE)");
        FaceLetters x = Due.net(1, 0, 0, 9, 9, 20, 20);
        Due.is("at(0, 5)", x.at(0, 5), 6);
        x.wake(0, false);
        Due.is("asleep: at(0, 5)", x.at(0, 5), 0);
        Due.is("asleep: at(0, 4)", x.at(0, 4), 0);
        Due.is("asleep: at(0, 3)", x.at(0, 3), 0);
        Due.is("not among the aims", x.at(1, 5), 4);
    }

    private static void shares() {
        justOneIsLeft();
        moreThanShare();
        lessThanOne();
        noChangeOfFaces();
    }

    private static void justOneIsLeft() {
        Due.says("if of u and NEXT just one is LEFT of the way from ENTRY to t");
        FaceLetters x = Due.net(45, 10, 30, 40, 30, 8, 36, 5, 42);
        Due.way(x, 0, 1, 2, 4, 1, 0, 4, 13);
        Due.steps(x, 0, 1, 0, 2, 3, 2, 0, NONE);
        x = Due.net(45, 10, 30, 40, 30, 8, 24, 5, 18);
        Due.way(x, 0, 1, 2, 4, 1, 0, 4, 13);
        Due.steps(x, 0, 1, 0, 2, 3, 2, 0, NONE);
    }

    private static void moreThanShare() {
        Due.says("the SHARE (ENTRY is 0 ..) is more than SHARE");
        FaceLetters x = Due.net(100, 10, 10, 40, 10, 8, 5);
        Due.way(x, 0, 1, 2, 2, 1, 0, 2, 5);
        x = Due.net(100, 10, 10, 40, 10, 8, 15);
        Due.way(x, 0, 1, 2, 2, 1, 0, 2, 5);
        x = Due.net(73, 10, 10, 40, 10, 2, 13, 2, 7);
        Due.way(x, 0, 1, 2, 3, 1, 0, 3, 13);
        Due.steps(x, 0, 1, 0, 2, 3, 0, NONE);
        Due.says("the SHARE (ENTRY is 0 ..): over just ENTRY's place from one side to the other");
        x = Due.net(50, 10, 10, 40, 10, 8, 16, 8, 4);
        Due.way(x, 0, 1, 2, 4, 1, 0, 4, 13);
        Due.steps(x, 0, 1, 0, 2, 0, 3, 0, NONE);
    }

    private static void lessThanOne() {
        Due.says("the SHARE (.. t is 1) is .. less than 1");
        FaceLetters x = Due.net(90, 10, 20, 12, 28, 20, 31, 28, 28, 31, 20, 28, 12, 20, 9, 12, 12, 20, 20);
        Due.way(x, 0, 8, 2, 8, 1, 0, 8, 255);
        Due.steps(x, 0, 8, 0, 1, 2, 3, 4, 5, 6, 7, 0, NONE);
        x.move(4, 31, 21);
        Due.way(x, 0, 8, 2, 8, 1, 0, 8, 255);
        x.move(4, 31, 19);
        Due.way(x, 0, 8, 2, 8, 1, 0, 8, 255);
    }

    private static void noChangeOfFaces() {
        Due.says("how often it CHANGED FACES: on no net there is such a link (NOTES.md says why)");
        Due.way(Due.net(10, 3, 4, 1, 1, 4, 3), 2, 1, 2, 2, 1, 0, 2);
        Due.way(Due.net(111, 1, 10, 1, 4, 13, 9), 0, 2, 2, 2, 1, 0, 2);
        Due.way(Due.net(19, 10, 2, 9, 2, 9, 10), 0, 2, 2, 3, 1, 0, 2);
        Due.way(Due.net(9, 2, 1, 2, 6, 5, 0, 2, 0), 0, 1, 2, 4, 1, 0, 4);
        Due.way(Due.net(4, 1, 3, 0, 2, 4, 3), 0, 2, 2, 2, 1, 0, 2);
        Due.way(Due.net(14, 6, 5, 3, 10, 7, 2, 9, 1), 0, 1, 2, 4, 1, 0, 4);
        Due.way(Due.net(28, 1, 7, 3, 9, 6, 1, 8, 4, 3, 6, 8, 8, 1, 1), 6, 4, 1, 5);
    }

    private static void asked() {
        hopsToNone();
        crossingsOfFourUnlike();
        pairsOfUnlikeAwakeOnes();
    }

    private static void hopsToNone() {
        Due.says("HOPS: the fewest LINKED ones one behind the other from s to t; NONE: it cannot come");
        FaceLetters x = Due.row(10);
        for (int t = 0; t < 10; t++) Due.is("hops(0, " + t + ")", x.hops(0, t), t);
        Due.is("hops(9, 0)", x.hops(9, 0), 9);
        x.wake(5, false);
        Due.is("over one asleep", x.hops(0, 9), NONE);
        Due.is("up to it", x.hops(0, 4), 4);
        x.reach(4);
        Due.is("farther at once", x.hops(0, 9), 5);
        x.reach(81);
        Due.is("all at once", x.hops(0, 9), 1);
    }

    private static void crossingsOfFourUnlike() {
        Due.says("CROSSINGS: pairs of LINKED pairs of four unlike NODES that have a place in common");
        Due.told(Due.net(8000, 5, 5, 0, 0, 10, 10, 20, 20), 8, 1 + 1);
        Due.told(Due.net(8000, 5, 5, 0, 0, 10, 10), 8, 0);
        Due.told(Due.net(8000, 0, 0, 10, 0, 5, 0, 5, 5), 8, 1);
        Due.told(Due.net(8000, 0, 0, 10, 0, 5, 1, 5, 5), 8, 0);
        Due.told(Due.net(8000, 0, 0, 1, 1, 0, 1, 1, 0), 8, 1);
        Due.told(Due.net(8000, 0, 0, 63, 63, 0, 63, 63, 0), 8, 1);
        Due.told(Due.net(1, 0, 0, 1, 1, 0, 1, 1, 0), 8, 0);
        Due.told(Due.net(2, 0, 0, 1, 1, 0, 1, 1, 0), 8, 1);
        Due.told(Due.net(4, 0, 0, 2, 0, 4, 0, 6, 0), 8, 0);
        Due.told(Due.net(16, 0, 0, 2, 0, 4, 0, 6, 0), 8, 1);
        dueCrossings(1, 2, 0, 0, 1, 1, 0, 1, 1, 0);
        dueCrossings(0, 1, 0, 0, 1, 1, 0, 1, 1, 0);
        dueCrossings(1, 8000, 0, 0, 10, 0, 5, 0, 5, 5);
        dueCrossings(1, 8000, 0, 0, 10, 0, 5, 0, 6, 5);
        dueCrossings(0, 8000, 0, 0, 3, 1, 2, 1, 2, 3);
        dueCrossings(0, 8000, 0, 0, 10, 0, 5, 1, 5, 5);
        dueCrossings(2, 8000, 0, 0, 2, 0, 4, 0, 6, 0);
        dueCrossings(0, 4, 0, 0, 2, 0, 4, 0, 6, 0);
        dueCrossings(2, 8000, 7, 1, 7, 3, 7, 5, 7, 7);
        dueCrossings(0, 4, 7, 1, 7, 3, 7, 5, 7, 7);
        dueCrossings(0, 8, 1, 1, 3, 3, 5, 5, 7, 7);
        dueCrossings(0, 2, 0, 0, 1, 1, 1, 0, 2, 1);
        Due.says("CROSSINGS: ten that no line has three of");
        Due.told(Due.net(8000, 11, 10, 13, 10, 15, 11, 16, 13, 16, 15, 15, 17, 13, 18, 11, 18, 9, 16, 9, 12), 8, 210);
    }

    /** Whichever numbers the four have. */
    private static void dueCrossings(int want, int reach, int... places) {
        for (int order = 0; order < 256; order++) {
            int a = order & 3, b = order >> 2 & 3, c = order >> 4 & 3, d = order >> 6;
            if ((1 << a | 1 << b | 1 << c | 1 << d) != 15) continue;
            FaceLetters x = new FaceLetters();
            for (int v : new int[] {a, b, c, d}) x.node(places[2 * v], places[2 * v + 1]);
            x.reach(reach);
            Due.told(x, 8, want);
        }
    }

    private static void pairsOfUnlikeAwakeOnes() {
        Due.says("pairs s, t of unlike AWAKE NODES (each way round)");
        FaceLetters x = Due.row(10);
        Due.told(x, 10, 90, 0);
        for (int v = 0; v < 10; v++) x.move(v, 2 * v, 9);
        Due.told(x, 10, 0, 90);
        x.wake(3, false);
        Due.told(x, 10, 0, 72);
        for (int v = 0; v < 9; v++) x.wake(v, false);
        Due.told(x, 10, 0, 0);
        x.wake(9, false);
        Due.told(x, 10, 0, 0);
    }
}
