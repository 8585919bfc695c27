/** Holds answers against those that are due, and prints each that differs under the sentence that asks for it. */
final class Due {
    static final int NONE = -1, UNKNOWN = -1000000001, OUTSIDE = -1000000002, NOT = -1000000003, FULL = -1000000004;
    static final int LEAST = Integer.MIN_VALUE, GREATEST = Integer.MAX_VALUE;
    private static int wrong = 0, held = 0;
    private static String sentence = "";

    private Due() {
    }

    /** The words of the document that the answers behind this are due to. */
    static void says(String words) {
        sentence = words;
    }

    static void is(String call, int got, int want) {
        held++;
        if (got == want) return;
        wrong++;
        System.out.println("\"" + sentence + "\": " + call + " answered " + got + ", due is " + want);
    }

    static void isTrue(String what, boolean is) {
        is(what, is ? 1 : 0, 1);
    }

    /** told(from), told(from + 1) and on. */
    static void told(FaceLetters x, int from, int... wants) {
        for (int i = 0; i < wants.length; i++) is("told(" + (from + i) + ")", x.told(from + i), wants[i]);
    }

    static void way(FaceLetters x, int s, int t, int... wants) {
        for (int i = 0; i < wants.length; i++) is("way(" + s + ", " + t + ", " + i + ")", x.way(s, t, i), wants[i]);
    }

    static void steps(FaceLetters x, int s, int t, int... wants) {
        for (int i = 0; i < wants.length; i++) is("step(" + s + ", " + t + ", " + i + ")", x.step(s, t, i), wants[i]);
    }

    static FaceLetters net(int reach, int... places) {
        FaceLetters x = new FaceLetters();
        for (int i = 0; i + 1 < places.length; i += 2) {
            is("node(" + places[i] + ", " + places[i + 1] + ")", x.node(places[i], places[i + 1]), i / 2);
        }
        x.reach(reach);
        return x;
    }

    /** Nodes 0, 1 and on, each one place to the right of the one before, LINKED with its neighbours alone. */
    static FaceLetters row(int nodes) {
        FaceLetters x = new FaceLetters();
        for (int v = 0; v < nodes; v++) x.node(v, 0);
        x.reach(1);
        return x;
    }

    static void end() {
        System.out.println(wrong + " of " + held + " answers are not as due");
        if (wrong != 0) System.exit(1);
    }
}
