import java.util.function.BiConsumer;

/** Each sentence of section 3 (the book, draws, what is undone, images) that names a boundary: a test of its own. */
public final class DeedBoundsTest {
    private static final int NONE = Due.NONE, UNKNOWN = Due.UNKNOWN, OUTSIDE = Due.OUTSIDE, NOT = Due.NOT, FULL = Due.FULL;

    public static void main(String[] args) {
        theNetFollowsEachDeed();
        book();
        draws();
        past();
        images();
        Due.end();
    }

    private static void theNetFollowsEachDeed() {
        Due.says("What is asked is asked of the NODES, REACH, RULE as they are behind each deed");
        FaceLetters x = Due.row(3);
        dueLinked(x, 2, 5, 2);
        x.node(3, 0);
        dueLinked(x, 2, 5, 10, 4);
        x.move(0, 4, 0);
        dueLinked(x, 8, 4, 10, 5);
        x.wake(2, false);
        dueLinked(x, 8, 0, 0, 1);
        x.undo(1);
        dueLinked(x, 8, 4, 10, 5);
        x.take(2);
        dueLinked(x, 4, 0, 1);
        x.reach(4);
        dueLinked(x, 4, 4, 3);
        Due.is("THIN by RULE 0", x.at(2, 4), 3);
        x.move(1, 4, 2);
        x.reach(8);
        dueLinked(x, 6, 5, 3);
        Due.is("THIN by RULE 0", x.at(2, 4), 1);
        x.move(1, 5, 1);
        x.rule(1);
        Due.is("THIN by RULE 1", x.at(2, 4), 1);
        x.keep(0);
        x.take(0);
        dueLinked(x, 2, 1);
        x.goBack(0);
        dueLinked(x, 6, 5, 3);
        x = new FaceLetters();
        x.node(0, 27);
        x.drift(1);
        dueLinked(x, 2, 1);
    }

    private static void dueLinked(FaceLetters x, int... sets) {
        for (int v = 0; v < sets.length; v++) Due.is("at(" + v + ", 3)", x.at(v, 3), sets[v]);
        Due.is("how many", x.told(0), sets.length);
    }

    private static void book() {
        twentyEntries();
        wrongIsTheFirst();
        numbersStayAsTold();
        wrongThoughToldAsLost();
        stepsOfAny();
        noBook();
    }

    private static void twentyEntries() {
        Due.says("THE BOOK (20 at most)");
        FaceLetters x = Due.row(2);
        for (int i = 1; i <= 20; i++) Due.is("write, entry " + i, x.write(0, 1, 1), i);
        Due.is("the twenty-first", x.write(0, 1, 5), FULL);
        Due.told(x, 12, 20, NONE);
        Due.is("tear()", x.tear(), 20);
        Due.is("room again", x.write(0, 1, 1), 1);
    }

    private static void wrongIsTheFirst() {
        Due.says("WRONG: the first that is otherwise now; NONE");
        for (int wrong = 0; wrong < 20; wrong++) {
            FaceLetters x = Due.row(3);
            for (int i = 0; i < 20; i++) x.write(0, 2, i < wrong ? 2 : 3);
            Due.is("entry " + wrong, x.told(13), wrong);
        }
        FaceLetters x = new FaceLetters();
        Due.is("no entry", x.told(13), NONE);
        x = Due.row(3);
        x.write(0, 2, 2);
        x.write(1, 2, 1);
        Due.is("none is", x.told(13), NONE);
        x.reach(4);
        Due.is("the first is now", x.told(13), 0);
        x.reach(1);
        Due.is("and is not again", x.told(13), NONE);
    }

    private static void numbersStayAsTold() {
        Due.says("s, t are numbers: they stay as they were told, whatever goes; (a NODE that there is no more, or is not AWAKE: it is, too)");
        FaceLetters x = Due.row(4);
        x.write(0, 1, 1);
        x.write(0, 2, 2);
        x.write(3, 0, 3);
        Due.told(x, 13, NONE);
        x.take(3);
        Due.is("s is no more", x.told(13), 2);
        x.node(3, 0);
        Due.is("another one has its number", x.told(13), NONE);
        x.take(0);
        Due.is("each is one number less", x.told(13), 2);
        x.undo(1);
        x.wake(2, false);
        Due.is("t is not AWAKE", x.told(13), 1);
        x.wake(2, true);
        x.wake(0, false);
        Due.is("s is not AWAKE", x.told(13), 0);
        x.wake(0, true);
        Due.told(x, 13, NONE);
        x.tear();
        x.write(3, 3, 0);
        Due.is("s and t the same", x.told(13), NONE);
        x.wake(3, false);
        Due.is("the same, not AWAKE", x.told(13), 0);
        x.take(3);
        Due.is("the same, no more", x.told(13), 0);
        while (x.told(0) > 0) x.take(0);
        Due.is("no NODE at all", x.told(13), 0);
        Due.is("entries", x.told(12), 1);
    }

    private static void wrongThoughToldAsLost() {
        Due.says("(a NODE that there is no more, or is not AWAKE: it is, too): told as LOST, too");
        FaceLetters x = Due.net(1, 0, 0, 1, 0, 9, 9);
        x.write(0, 2, NONE);
        Due.told(x, 13, NONE);
        x.wake(2, false);
        Due.is("t is not AWAKE", x.told(13), 0);
        x.wake(2, true);
        x.wake(0, false);
        Due.is("s is not AWAKE", x.told(13), 0);
        x.wake(0, true);
        Due.told(x, 13, NONE);
        x.take(2);
        Due.is("t is no more", x.told(13), 0);
        x.undo(1);
        x.tear();
        x.write(2, 0, NONE);
        Due.told(x, 13, NONE);
        x.take(2);
        Due.is("s is no more", x.told(13), 0);
        x.take(1);
        x.take(0);
        Due.is("both are no more", x.told(13), 0);
    }

    private static void stepsOfAny() {
        Due.says("(NONE: LOST ..); STEPS v, any");
        FaceLetters x = Due.net(1, 0, 0, 1, 0, 9, 9);
        for (int v : new int[] {Due.LEAST, NOT, UNKNOWN, -2, 0, 2, 3, 200, Due.GREATEST}) {
            x.write(0, 2, v);
            Due.is("LOST, told as " + v, x.told(13), 0);
            x.tear();
        }
        x.write(0, 2, NONE);
        Due.is("LOST, told as NONE", x.told(13), NONE);
        x.tear();
        for (int v : new int[] {Due.LEAST, NONE, 0, 2, Due.GREATEST}) {
            x.write(0, 1, v);
            Due.is("one STEP, told as " + v, x.told(13), 0);
            x.tear();
        }
        for (int v : new int[] {Due.LEAST, NONE, 1, Due.GREATEST}) {
            x.write(1, 1, v);
            Due.is("no STEP, told as " + v, x.told(13), 0);
            x.tear();
        }
        x.write(1, 1, 0);
        Due.is("no STEP, told as 0", x.told(13), NONE);
    }

    private static void noBook() {
        Due.says("No BOOK: how much it had");
        FaceLetters x = Due.row(2);
        Due.is("tear() of none", x.tear(), 0);
        x.write(0, 1, 9);
        Due.is("tear() of one", x.tear(), 1);
        Due.told(x, 12, 0, NONE);
        Due.told(x, 0, 2);
        Due.told(x, 14, 3);
    }

    private static void draws() {
        firstSeed();
        seedWrapsAround();
        drawOfSixtyFour();
        whileThereIsRoom();
        ifNoneStandsThere();
    }

    private static void dueDrawn(int seed, int x, int y, int seedThen) {
        FaceLetters net = new FaceLetters();
        net.seed(seed);
        Due.is("drift(1) from " + seed, net.drift(1), 1);
        Due.is("x from " + seed, net.at(0, 0), x);
        Due.is("y from " + seed, net.at(0, 1), y);
        Due.is("THE SEED behind " + seed, net.told(15), seedThen);
    }

    private static void firstSeed() {
        Due.says("THE SEED (0 at first: each DRAW it becomes it times 1103515245 and 12345 ..)");
        FaceLetters x = new FaceLetters();
        Due.is("drift(10)", x.drift(10), 10);
        int[] places = {0, 28, 4, 37, 42, 31, 45, 29, 26, 26, 37, 44, 27, 30, 31, 19, 48, 57, 44, 61};
        for (int i = 0; i < 20; i++) Due.is("draw " + i, x.at(i / 2, i % 2), places[i]);
        Due.is("THE SEED", x.told(15), 1157490780);
        dueDrawn(0, 0, 28, 1406932606);
        dueDrawn(1, 6, 62, 377401575);
    }

    private static void seedWrapsAround() {
        Due.says(".. left over by 2 to the 31");
        dueDrawn(2147483647, 57, 57, 288979989);
        dueDrawn(1073741824, 0, 28, 333190782);
        Due.says(".. left over by 2 to the 31: just 0, and just the greatest");
        dueDrawn(2088216195, 0, 0, 12345);
        dueDrawn(204577074, 55, 0, 0);
        dueDrawn(230538014, 63, 57, 1043980748);
        dueDrawn(801440601, 61, 63, 2147483647);
    }

    private static void drawOfSixtyFour() {
        Due.says("the DRAW of n is it / 65536, left over by n");
        dueDrawn(1167983449, 34, 0, 65535);
        dueDrawn(571119922, 28, 1, 65536);
        dueDrawn(637862745, 61, 63, 64 * 65536 - 1);
        dueDrawn(40999218, 55, 0, 64 * 65536);
    }

    private static void whileThereIsRoom() {
        Due.says("n times, while there is room");
        for (int room = 0; room <= 10; room++) {
            FaceLetters x = new FaceLetters();
            for (int v = 0; v < 10 - room; v++) x.node(63, v);
            x.keep(0);
            Due.is("drift(10), room for " + room, x.drift(10), 10);
            int[] seeds = {0, 1406932606, 1449466924, 1109335178, 1293799192, 551188310, 1772930244, 639546082, 1695770928, 1719212846, 1157490780};
            Due.is("THE SEED, room for " + room, x.told(15), seeds[room]);
            Due.is("deeds, room for " + room, x.told(14), room);
            Due.is("drift(1) behind it", x.drift(1), 10);
            Due.is("THE SEED behind it", x.told(15), seeds[room]);
            Due.is("deeds behind it", x.told(14), room);
        }
        FaceLetters x = new FaceLetters();
        Due.is("drift(1)", x.drift(1), 1);
        Due.is("drift(3)", x.drift(3), 4);
        Due.is("drift(9), room for 6", x.drift(9), 10);
        Due.is("THE SEED", x.told(15), 1157490780);
    }

    private static void ifNoneStandsThere() {
        Due.says("a NODE comes there, if none stands there");
        FaceLetters x = new FaceLetters();
        x.node(0, 28);
        x.wake(0, false);
        Due.is("one stands at the first place, asleep", x.drift(1), 1);
        Due.is("drawn all the same", x.told(15), 1406932606);
        Due.is("no deed", x.told(14), 2);
        Due.is("it sleeps on", x.at(0, 2), 0);
        Due.is("the second place", x.drift(1), 2);
        Due.is("x", x.at(1, 0), 4);
        x.seed(0);
        Due.is("both places, one more", x.drift(3), 3);
        Due.is("x", x.at(2, 0), 42);
        Due.is("deeds", x.told(14), 4);
        x.seed(0);
        Due.is("three places, none comes", x.drift(3), 3);
        Due.is("deeds", x.told(14), 4);
        x = new FaceLetters();
        x.node(48, 57);
        for (int v = 0; v < 8; v++) x.node(v, 0);
        x.seed(1695770928);
        Due.is("the last room stays while one stands there", x.drift(1), 9);
        Due.is("and is taken then", x.drift(1), 10);
    }

    private static void past() {
        eachDeedIsUndone();
        sixteenAtMost();
        ringOfDeeds();
        notSoMany();
        seedAndBookStay();
        whatIsNoDeed();
        deedsThatChangeNothing();
    }

    private static FaceLetters five() {
        FaceLetters x = Due.net(2, 0, 0, 1, 0, 2, 0, 3, 0, 3, 1);
        x.wake(2, false);
        x.seed(7);
        return x;
    }

    private static void dueUndone(String name, Probe.Call deed) {
        FaceLetters x = five();
        deed.on(x);
        Due.is("deeds behind " + name, x.told(14), 8);
        Due.is("undo(1) behind " + name, x.undo(1), 7);
        Due.isTrue("as ahead of " + name, Probe.areAlike(DeedBoundsTest::five, () -> {
            FaceLetters y = five();
            deed.on(y);
            y.undo(1);
            y.seed(7);
            return y;
        }));
    }

    private static void eachDeedIsUndone() {
        Due.says("UNDONE: the latest deeds (node(), move(), wake(), take(), reach(), rule(), each NODE that comes BY DRAWS)");
        dueUndone("node()", x -> x.node(4, 4));
        for (int v = 0; v < 5; v++) {
            int u = v;
            dueUndone("move(" + u + ")", x -> x.move(u, 2, 2));
            dueUndone("take(" + u + ")", x -> x.take(u));
            dueUndone("wake(" + u + ", false)", x -> x.wake(u, false));
            dueUndone("wake(" + u + ", true)", x -> x.wake(u, true));
        }
        dueUndone("reach()", x -> x.reach(1));
        dueUndone("rule()", x -> x.rule(1));
        dueUndone("drift(1)", x -> x.drift(1));
        FaceLetters x = five();
        x.drift(4);
        Due.is("deeds behind drift(4)", x.told(14), 11);
        for (int left = 8; left >= 5; left--) {
            Due.is("undo(1) of drift(4)", x.undo(1), 2 + left);
            Due.told(x, 0, left);
        }
    }

    private static void sixteenAtMost() {
        Due.says("(16 at most are kept)");
        FaceLetters x = new FaceLetters();
        for (int v = 1; v <= 15; v++) x.reach(v);
        Due.told(x, 14, 15);
        x.reach(16);
        Due.told(x, 14, 16);
        Due.is("undo(16) of sixteen", x.undo(16), 0);
        Due.told(x, 2, 400);
        for (int v = 1; v <= 17; v++) x.reach(v);
        Due.told(x, 14, 16);
        Due.is("undo(17)", x.undo(17), OUTSIDE);
        Due.is("undo(16) of seventeen", x.undo(16), 0);
        Due.is("the first of seventeen stays", x.told(2), 1);
        Due.is("undo(1)", x.undo(1), NOT);
        x = new FaceLetters();
        for (int v = 1; v <= 10; v++) x.reach(v);
        x.drift(10);
        Due.told(x, 14, 16);
        Due.is("undo(16), ten of them by draws", x.undo(16), 0);
        Due.told(x, 0, 0, 0, 4);
    }

    private static void ringOfDeeds() {
        Due.says("The n latest (1 .. 16) are undone: how many can be then");
        for (int deeds = 0; deeds <= 50; deeds++) {
            int kept = Math.min(deeds, 16);
            for (int n = 1; n <= 16; n++) {
                FaceLetters x = new FaceLetters();
                for (int v = 1; v <= deeds; v++) x.reach(v);
                Due.is("undo(" + n + ") of " + deeds, x.undo(n), n <= kept ? kept - n : NOT);
                int left = n <= kept ? deeds - n : deeds;
                Due.is("REACH behind undo(" + n + ") of " + deeds, x.told(2), left == 0 ? 400 : left);
                x.reach(77);
                Due.is("a deed more", x.told(14), Math.min(16, (n <= kept ? kept - n : kept) + 1));
                x.undo(1);
                Due.is("REACH without it", x.told(2), left == 0 ? 400 : left);
            }
        }
    }

    private static void notSoMany() {
        Due.says("NOT: not so many");
        FaceLetters x = new FaceLetters();
        Due.is("undo(1) of none", x.undo(1), NOT);
        x.reach(5);
        Due.is("undo(2) of one", x.undo(2), NOT);
        Due.told(x, 2, 5);
        Due.is("undo(1) of one", x.undo(1), 0);
        Due.told(x, 2, 400);
    }

    private static void seedAndBookStay() {
        Due.says("THE SEED, THE BOOK stay");
        FaceLetters x = Due.row(2);
        x.write(0, 1, 1);
        x.drift(1);
        x.write(0, 1, 1);
        int seed = x.told(15);
        x.undo(1);
        Due.told(x, 12, 2, NONE);
        Due.is("THE SEED", x.told(15), seed);
        x.seed(2147483647);
        x.undo(3);
        Due.told(x, 12, 2, 0, 0, 2147483647);
        x.reach(1);
        x.tear();
        x.undo(1);
        Due.told(x, 12, 0);
    }

    private static void whatIsNoDeed() {
        Due.says("UNDONE: the latest deeds (node(), move(), wake(), take(), reach(), rule(), each NODE that comes BY DRAWS)");
        FaceLetters x = five();
        x.seed(8);
        x.write(0, 0, 0);
        x.tear();
        x.undo(1);
        x.undo(17);
        x.told(10);
        x.way(0, 1, 0);
        x.drift(11);
        x.node(0, 0);
        x.move(0, 1, 0);
        x.wake(5, true);
        x.take(5);
        x.reach(0);
        x.rule(2);
        Due.told(x, 14, 6);
        Due.is("what was the latest deed is undone, no other", x.at(2, 2), 1);
    }

    private static void deedsThatChangeNothing() {
        Due.says("UNDONE: a deed that is not refused can be undone, even if nothing is otherwise by it");
        BiConsumer<String, Probe.Call> due = (name, deed) -> {
            FaceLetters x = five();
            deed.on(x);
            Due.is("deeds behind " + name, x.told(14), 8);
            Due.is("undo(1) behind " + name, x.undo(1), 7);
            Due.is("the deed ahead of it stands", x.at(2, 2), 0);
        };
        due.accept("wake() of one AWAKE", x -> x.wake(0, true));
        due.accept("wake() to sleep of one asleep", x -> x.wake(2, false));
        due.accept("move() to its own place", x -> x.move(0, 0, 0));
        due.accept("reach() as it is", x -> x.reach(2));
        due.accept("rule() as it is", x -> x.rule(0));
    }

    private static void images() {
        imagesNoughtAndOne();
        imagesKeepAll();
        nothingCanBeUndoneThen();
        imageOfNone();
        bookIsInNoImage();
    }

    private static void imagesNoughtAndOne() {
        Due.says("IMAGES 0, 1");
        FaceLetters x = new FaceLetters();
        Due.is("keep(-1)", x.keep(-1), UNKNOWN);
        Due.is("keep(2)", x.keep(2), UNKNOWN);
        x.reach(10);
        Due.is("keep(0)", x.keep(0), 1);
        Due.is("goBack(1)", x.goBack(1), NOT);
        x.reach(11);
        Due.is("keep(1)", x.keep(1), 1);
        x.reach(12);
        Due.is("goBack(0)", x.goBack(0), 1);
        Due.told(x, 2, 10);
        Due.is("goBack(1)", x.goBack(1), 1);
        Due.told(x, 2, 11);
        Due.is("goBack(0) again", x.goBack(0), 1);
        Due.told(x, 2, 10);
        x.reach(13);
        Due.is("keep(0) again", x.keep(0), 1);
        x.goBack(1);
        x.goBack(0);
        Due.told(x, 2, 13);
    }

    private static void imagesKeepAll() {
        Due.says("IMAGES 0, 1 keep NODES, REACH, RULE, THE SEED");
        for (int i = 0; i < 2; i++) {
            int image = i;
            Probe.Maker kept = () -> {
                FaceLetters x = full();
                x.keep(image);
                return x;
            };
            Probe.Maker goneBack = () -> {
                FaceLetters x = kept.make();
                for (int v = 0; v < 10; v++) x.move(v, v, 60);
                for (int v = 0; v < 5; v++) x.wake(v, v % 2 == 0);
                x.take(3);
                x.reach(5);
                x.rule(0);
                x.drift(1);
                x.undo(2);
                x.seed(1);
                x.goBack(image);
                return x;
            };
            Due.isTrue("as kept in " + image, Probe.areAlike(kept, goneBack));
        }
    }

    private static FaceLetters full() {
        FaceLetters x = Due.net(50, 0, 0, 5, 5, 10, 0, 15, 5, 20, 0, 25, 5, 30, 0, 35, 5, 40, 0, 45, 5);
        x.wake(0, false);
        x.wake(9, false);
        x.rule(1);
        x.seed(2147483647);
        return x;
    }

    private static void nothingCanBeUndoneThen() {
        Due.says("(nothing can be undone then); since the IMAGE");
        FaceLetters x = Due.row(3);
        x.keep(1);
        Due.told(x, 14, 0);
        Due.is("undo(1) behind keep()", x.undo(1), NOT);
        Due.told(x, 0, 3, 3, 1);
        x.take(0);
        Due.told(x, 14, 1);
        Due.is("undo(2) of one since", x.undo(2), NOT);
        x.goBack(1);
        Due.told(x, 14, 0);
        Due.is("undo(1) behind goBack()", x.undo(1), NOT);
        x.take(2);
        x.take(0);
        Due.told(x, 14, 2);
        Due.is("undo(2) since", x.undo(2), 0);
        Due.told(x, 0, 3, 3, 1);
        for (int v = 1; v <= 20; v++) x.reach(v);
        x.keep(0);
        for (int v = 21; v <= 37; v++) x.reach(v);
        Due.is("sixteen of seventeen since", x.undo(16), 0);
        Due.told(x, 2, 21);
        Due.is("goBack(2), refused", x.goBack(2), UNKNOWN);
        x.reach(40);
        Due.is("keep(2), refused", x.keep(2), UNKNOWN);
        Due.told(x, 14, 1);
    }

    private static void imageOfNone() {
        Due.says("IMAGE i becomes what is so: no NODES, too");
        FaceLetters x = new FaceLetters();
        x.keep(0);
        x.drift(10);
        x.wake(3, false);
        Due.is("goBack(0)", x.goBack(0), 1);
        Due.told(x, 0, 0, 0, 400, 0, 0, 0, 0, 0, 0, 0, 0, 0, 0, NONE, 0, 0);
        Due.is("at(0, 0)", x.at(0, 0), UNKNOWN);
        Due.is("drift(10) as at first", x.drift(10), 10);
        Due.is("THE SEED", x.told(15), 1157490780);
    }

    private static void bookIsInNoImage() {
        Due.says("What is so becomes IMAGE i: THE BOOK stays");
        FaceLetters x = Due.row(3);
        x.write(0, 2, 2);
        x.keep(0);
        x.write(0, 1, 1);
        x.take(2);
        Due.told(x, 12, 2, 0);
        x.goBack(0);
        Due.told(x, 12, 2, NONE);
        x.tear();
        x.goBack(0);
        Due.told(x, 12, 0);
    }
}
