import java.lang.reflect.Method;
import java.lang.reflect.Modifier;
import java.nio.file.Files;
import java.nio.file.Path;
import java.util.List;
import java.util.regex.Matcher;
import java.util.regex.Pattern;

/** What README.md says of the use of the class is so: its examples are played line by line. */
public final class ReadmeTest {
    private static final Pattern NEW = Pattern.compile("PlaySpans x = new PlaySpans\\((-?\\d+)\\);");
    private static final Pattern CALL = Pattern.compile("x\\.(\\w+)\\(([-\\d, ]*)\\);\\s+// .*-> (-?\\d+)");

    private static int call(PlaySpans x, String name, String arguments) throws Exception {
        String[] words = arguments.isBlank() ? new String[0] : arguments.split(", ");
        Class<?>[] types = new Class<?>[words.length];
        Object[] values = new Object[words.length];
        for (int n = 0; n < words.length; n++) {
            types[n] = int.class;
            values[n] = Integer.valueOf(words[n]);
        }
        return (Integer) PlaySpans.class.getMethod(name, types).invoke(x, values);
    }

    private static void playExamples(List<String> lines) throws Exception {
        PlaySpans x = null;
        boolean inExample = false;
        for (String line : lines) {
            if (line.startsWith("```")) {
                inExample = line.equals("```java");
                continue;
            }
            if (!inExample) {
                continue;
            }
            Matcher made = NEW.matcher(line), called = CALL.matcher(line);
            if (made.matches()) {
                x = new PlaySpans(Integer.parseInt(made.group(1)));
            } else if (called.matches() && x != null) {
                Due.is(line, call(x, called.group(1), called.group(2)), Integer.parseInt(called.group(3)));
            } else {
                Due.holds("a line of an example can be played: " + line, false);
            }
        }
    }

    private static void nameCalls(String text) {
        for (Method m : PlaySpans.class.getDeclaredMethods()) {
            if (Modifier.isPublic(m.getModifiers())) {
                Due.holds("a row for " + m.getName(), text.contains("\n| `" + m.getName() + "("));
            }
        }
    }

    public static void main(String[] args) throws Exception {
        Path file = Path.of("README.md");
        Due.sentence("README.md says how to use the class");
        playExamples(Files.readAllLines(file));
        nameCalls(Files.readString(file));
        Due.sentence("and how to run its tests.");
        Due.holds(".ci/run stands in README.md", Files.readString(file).contains("\n.ci/run\n"));
        Due.end();
    }
}
