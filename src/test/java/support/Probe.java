import java.util.ArrayList;
import java.util.List;

/**
 * All that can be seen of an object, also what only undo(), goBack() and drift() bring to light.
 * Each look is at a fresh object made by the same calls, so that none is used for more than 512.
 */
final class Probe {
    interface Maker {
        FaceLetters make();
    }

    interface Call {
        int on(FaceLetters x);
    }

    private interface Look {
        void at(FaceLetters x, List<Integer> seen);
    }

    private static final List<Look> LOOKS = looks();

    private Probe() {
    }

    private static List<Look> looks() {
        List<Look> looks = new ArrayList<>();
        looks.add(Probe::net);
        looks.add(Probe::ways);
        looks.add(Probe::pairs);
        looks.add((x, seen) -> behind(x.drift(1), x, seen));
        looks.add((x, seen) -> behind(x.tear(), x, seen));
        for (int i = 0; i < 2; i++) {
            int image = i;
            looks.add((x, seen) -> behind(x.goBack(image), x, seen));
        }
        for (int i = 1; i <= 17; i++) {
            int n = i;
            looks.add((x, seen) -> behind(x.undo(n), x, seen));
        }
        return looks;
    }

    private static void behind(int answer, FaceLetters x, List<Integer> seen) {
        seen.add(answer);
        net(x, seen);
    }

    private static void net(FaceLetters x, List<Integer> seen) {
        for (int what = 0; what < 16; what++) seen.add(x.told(what));
        for (int v = 0; v < 10; v++) for (int what = 0; what < 6; what++) seen.add(x.at(v, what));
    }

    private static void ways(FaceLetters x, List<Integer> seen) {
        for (int s = 0; s < 10; s++) {
            for (int t = 0; t < 10; t++) {
                seen.add(x.way(s, t, 1));
                seen.add(x.way(s, t, 5));
                seen.add(x.step(s, t, 1));
                seen.add(x.hops(s, t));
            }
        }
    }

    private static void pairs(FaceLetters x, List<Integer> seen) {
        for (int u = 0; u < 10; u++) {
            for (int v = 0; v < 10; v++) {
                seen.add(x.far(u, v));
                seen.add(x.turning(u, v));
                seen.add(x.face(u, v));
            }
        }
    }

    /** Whether nothing can be told from the call's having been made. */
    static boolean nothingChanges(Maker maker, Call call) {
        for (Look look : LOOKS) {
            List<Integer> without = new ArrayList<>(), with = new ArrayList<>();
            look.at(maker.make(), without);
            FaceLetters x = maker.make();
            call.on(x);
            look.at(x, with);
            if (!with.equals(without)) return false;
        }
        return true;
    }

    /** Whether the two makers' objects are alike in all that can be seen. */
    static boolean areAlike(Maker one, Maker other) {
        for (Look look : LOOKS) {
            List<Integer> first = new ArrayList<>(), second = new ArrayList<>();
            look.at(one.make(), first);
            look.at(other.make(), second);
            if (!first.equals(second)) return false;
        }
        return true;
    }
}
