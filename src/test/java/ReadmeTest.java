import java.lang.reflect.Method;
import java.lang.reflect.Modifier;
import java.nio.file.Files;
import java.nio.file.Path;
import java.util.regex.Matcher;
import java.util.regex.Pattern;

/** The example of README.md answers as README.md says, and README.md leaves no call out. */
public final class ReadmeTest {
    private static final Pattern CALL = Pattern.compile("x\\.(\\w+)\\(([^)]*)\\); +// (-?\\w+).*");
    private static int wrong = 0, made = 0;

    public static void main(String[] args) throws Exception {
        String text = Files.readString(Path.of("README.md"));
        example(text);
        everyCall(text);
        hold(made > 0, "README.md has an example");
        System.out.println(wrong == 0 ? "README.md holds" : wrong + " places of README.md do not hold");
        if (wrong != 0) System.exit(1);
    }

    private static void hold(boolean is, String what) {
        if (is) return;
        wrong++;
        System.out.println("not so: " + what);
    }

    private static void example(String text) throws Exception {
        FaceLetters x = new FaceLetters();
        for (String line : text.split("\n")) {
            if (!line.startsWith("x.")) continue;
            Matcher call = CALL.matcher(line);
            hold(call.matches(), "a call and its answer: " + line);
            if (call.matches()) hold(answer(x, call.group(1), call.group(2)) == number(call.group(3)), line);
            made++;
        }
    }

    private static int answer(FaceLetters x, String name, String list) throws Exception {
        String[] words = list.isEmpty() ? new String[0] : list.split(", ");
        for (Method m : FaceLetters.class.getDeclaredMethods()) {
            if (!Modifier.isPublic(m.getModifiers()) || !m.getName().equals(name) || m.getParameterCount() != words.length) continue;
            Object[] args = new Object[words.length];
            for (int i = 0; i < words.length; i++) {
                if (m.getParameterTypes()[i] == boolean.class) args[i] = Boolean.valueOf(words[i]);
                else args[i] = Integer.valueOf(words[i]);
            }
            return (int) m.invoke(x, args);
        }
        throw new IllegalArgumentException("no such call: " + name + "(" + list + ")");
    }

    private static int number(String word) throws Exception {
        return word.matches("-?[0-9]+") ? Integer.parseInt(word) : FaceLetters.class.getField(word).getInt(null);
    }

    private static void everyCall(String text) {
        for (Method m : FaceLetters.class.getDeclaredMethods()) {
            if (!Modifier.isPublic(m.getModifiers())) continue;
            hold(text.contains("`" + m.getName() + "("), m.getName() + " is told in README.md");
        }
    }
}
