import java.lang.reflect.Constructor;
import java.lang.reflect.Field;
import java.lang.reflect.Member;
import java.lang.reflect.Method;
import java.lang.reflect.Modifier;
import java.nio.file.Files;
import java.nio.file.Path;
import java.util.ArrayList;
import java.util.Arrays;
import java.util.LinkedHashMap;
import java.util.List;
import java.util.Map;
import java.util.Set;
import java.util.TreeSet;
import java.util.regex.Matcher;
import java.util.regex.Pattern;

/** The public face, and those rules of LANGUAGE.md that a look at the class and its text can tell. */
public final class RulesTest {
    private static final String FACE = "at(int,int) drift(int) face(int,int) far(int,int) goBack(int) hops(int,int) keep(int) "
        + "move(int,int,int) node(int,int) reach(int) rule(int) seed(int) step(int,int,int) take(int) tear() told(int) "
        + "turning(int,int) undo(int) wake(int,boolean) way(int,int,int) write(int,int,int)";
    private static final String[] FORBIDDEN = {"\\bthrow\\b", "\\btry\\b", "\\bcatch\\b", "\\bsynchronized\\b", "\\bassert\\b",
        "->", "::", "\\bpackage\\b", "\\w+Exact\\b", "\\bSystem\\.(?!arraycopy)", "\\bRandom\\b", "\\bThread\\b", "\\bwhile\\s*\\(true",
        "[^\\x00-\\x7f]"};
    private static final Pattern HEAD = Pattern.compile("( +)(?:public|private) (static |final )*(int |boolean |void )?(\\w+)\\(.*\\) \\{");
    private static final int MOST_LINES = 60, MOST_DEEP = 8;
    private static int wrong = 0;

    public static void main(String[] args) throws Exception {
        face();
        constants();
        members();
        text();
        bodies();
        System.out.println(wrong == 0 ? "the rules that are looked at hold" : wrong + " rules are broken");
        if (wrong != 0) System.exit(1);
    }

    private static void hold(boolean is, String what) {
        if (is) return;
        wrong++;
        System.out.println("broken: " + what);
    }

    private static void face() {
        Set<String> found = new TreeSet<>();
        for (Method m : FaceLetters.class.getDeclaredMethods()) {
            if (!Modifier.isPublic(m.getModifiers())) continue;
            List<String> types = new ArrayList<>();
            for (Class<?> type : m.getParameterTypes()) types.add(type.getName());
            found.add(m.getName() + "(" + String.join(",", types) + ")");
            hold(m.getReturnType() == int.class, m + " answers an int");
        }
        hold(String.join(" ", found).equals(FACE), "the face: " + found);
        hold(Modifier.isFinal(FaceLetters.class.getModifiers()), "the class is final");
        Constructor<?>[] all = FaceLetters.class.getDeclaredConstructors();
        hold(all.length == 1 && all[0].getParameterCount() == 0 && Modifier.isPublic(all[0].getModifiers()), "one constructor");
    }

    private static void constants() {
        hold(FaceLetters.NONE == -1, "NONE");
        hold(FaceLetters.UNKNOWN == -1000000001, "UNKNOWN");
        hold(FaceLetters.OUTSIDE == -1000000002, "OUTSIDE");
        hold(FaceLetters.NOT == -1000000003, "NOT");
        hold(FaceLetters.FULL == -1000000004, "FULL");
        hold(Arrays.stream(FaceLetters.class.getFields()).map(Field::getName).sorted().toList()
            .equals(List.of("FULL", "NONE", "NOT", "OUTSIDE", "UNKNOWN")), "no other constant is public");
    }

    private static void members() {
        List<Member> all = new ArrayList<>(List.of(FaceLetters.class.getDeclaredMethods()));
        all.addAll(List.of(FaceLetters.class.getDeclaredFields()));
        for (Member m : all) hold(Modifier.isPublic(m.getModifiers()) || Modifier.isPrivate(m.getModifiers()), m + " is private");
        Class<?>[] inside = FaceLetters.class.getDeclaredClasses();
        hold(inside.length <= 12, "twelve classes at most");
        for (Class<?> c : inside) {
            hold(Modifier.isStatic(c.getModifiers()), c + " is static");
            hold(c.getDeclaredFields().length <= 20, c + " has twenty fields at most");
            for (Method m : c.getDeclaredMethods()) {
                hold(!FACE.matches(".*\\b" + m.getName() + "\\(.*"), m + " bears the name of a public one");
                hold(m.getParameterCount() <= 7, m + " takes seven at most");
            }
        }
    }

    private static String bareText() throws Exception {
        return Files.readString(Path.of("src/main/java/FaceLetters.java")).replaceAll("//.*", "").replaceAll("(?s)/\\*.*?\\*/", "");
    }

    private static void text() throws Exception {
        String text = bareText();
        for (String word : FORBIDDEN) hold(!Pattern.compile(word).matcher(text).find(), "found " + word);
        for (String line : text.split("\n")) {
            if (line.startsWith("import ")) hold(line.matches("import java\\.util\\.(Arrays|ArrayList|List);"), line);
        }
    }

    /** Methods stay short, make nothing outside of constructors, and stand few deep in one another. */
    private static void bodies() throws Exception {
        Map<String, String> bodies = new LinkedHashMap<>();
        String[] lines = bareText().split("\n");
        for (int i = 0; i < lines.length; i++) {
            Matcher head = HEAD.matcher(lines[i]);
            if (!head.matches()) continue;
            int end = i + 1;
            while (!lines[end].equals(head.group(1) + "}")) end++;
            String name = head.group(4);
            String body = String.join("\n", Arrays.copyOfRange(lines, i + 1, end));
            hold(end - i + 1 <= MOST_LINES, name + " is short");
            hold(head.group(3) == null || !body.matches("(?s).*\\bnew\\b.*"), name + " makes no object");
            hold(bodies.put(name, body) == null, name + " is the name of one method alone");
        }
        hold(bodies.size() > FACE.split(" ").length, "the methods are found in the text");
        for (String name : bodies.keySet()) hold(deep(name, bodies, 0) <= MOST_DEEP, name + " goes eight deep at most, and never into itself");
    }

    private static int deep(String name, Map<String, String> bodies, int above) {
        if (above > MOST_DEEP) return above;
        int most = 0;
        for (String other : bodies.keySet()) {
            if (bodies.get(name).matches("(?s).*\\b" + other + "\\(.*")) most = Math.max(most, deep(other, bodies, above + 1));
        }
        return most + 1;
    }
}
