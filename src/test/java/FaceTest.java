import java.lang.management.ManagementFactory;
import java.lang.reflect.Constructor;
import java.lang.reflect.Field;
import java.lang.reflect.Method;
import java.lang.reflect.Modifier;
import java.nio.file.Files;
import java.nio.file.Path;
import java.util.Set;
import java.util.TreeSet;
import java.util.regex.Matcher;
import java.util.regex.Pattern;

/** The public face, the words that LANGUAGE.md rules out, and that calls leave nothing behind. */
public final class FaceTest {
    private static int wrong = 0;

    private static void check(String what, boolean holds) {
        if (!holds) {
            wrong++;
            System.out.println("not so: " + what);
        }
    }

    private static String told(Class<?> result, String name, Class<?>[] parameters) {
        for (Class<?> p : parameters) {
            check(name + " takes ints alone", p == int.class);
        }
        return result.getName() + " " + name + "/" + parameters.length;
    }

    private static void face() {
        Class<?> c = PlaySpans.class;
        check("the class is public and final", Modifier.isPublic(c.getModifiers()) && Modifier.isFinal(c.getModifiers()));
        Set<String> shown = new TreeSet<>();
        Set<String> publicNames = new TreeSet<>();
        Set<String> privateNames = new TreeSet<>();
        for (Method m : c.getDeclaredMethods()) {
            if (Modifier.isPrivate(m.getModifiers())) {
                privateNames.add(m.getName());
            } else {
                shown.add(told(m.getReturnType(), m.getName(), m.getParameterTypes()));
                publicNames.add(m.getName());
            }
        }
        check("the methods are those of the document, not " + shown, shown.equals(documentMethods()));
        privateNames.retainAll(publicNames);
        check("no private method has a public one's name: " + privateNames, privateNames.isEmpty());
        Constructor<?>[] made = c.getDeclaredConstructors();
        check("one constructor of an int", made.length == 1 && Modifier.isPublic(made[0].getModifiers())
                && made[0].getParameterCount() == 1 && made[0].getParameterTypes()[0] == int.class);
        Set<String> fields = new TreeSet<>();
        for (Field f : c.getDeclaredFields()) {
            if (!Modifier.isPrivate(f.getModifiers())) {
                fields.add(f.getName());
            }
            check(f.getName() + " is final if static", !Modifier.isStatic(f.getModifiers()) || Modifier.isFinal(f.getModifiers()));
        }
        check("the constants alone are shown, not " + fields, fields.equals(Set.of("BAD", "NONE", "NOT", "FULL")));
        check("twelve classes at most", c.getDeclaredClasses().length < 12);
        for (Class<?> inside : c.getDeclaredClasses()) {
            check(inside.getName() + " is static and not public",
                    Modifier.isStatic(inside.getModifiers()) && !Modifier.isPublic(inside.getModifiers()));
        }
    }

    private static Set<String> documentMethods() {
        return Set.of("int event/6", "int drop/0", "int bound/2", "int pin/2", "int states/1", "int state/3",
                "int step/3", "int price/0", "int way/1", "int stuck/0", "int ways/1", "int told/1", "int about/2");
    }

    private static void language() throws Exception {
        String source = Files.readString(Path.of("src/main/java/PlaySpans.java"));
        String bare = source.replaceAll("(?s)/\\*.*?\\*/", " ").replaceAll("//[^\n]*", " ");
        for (String word : new String[] {"throw", "throws", "try", "catch", "synchronized", "assert", "import", "package",
            "Object", "System", "Random", "Thread", "protected", "equals", "hashCode", "toString"}) {
            check("no word " + word, !Pattern.compile("\\b" + word + "\\b").matcher(bare).find());
        }
        for (String sign : new String[] {"->", "::", "Exact", "\"", "@"}) {
            check("no " + sign, !bare.contains(sign));
        }
        Matcher library = Pattern.compile("\\b(Math|Integer|Long)\\.(\\w+)").matcher(bare);
        while (library.find()) {
            check("library: " + library.group(), Set.of("abs", "max", "min", "bitCount", "numberOfTrailingZeros")
                    .contains(library.group(2)));
        }
    }

    private static int useAll(PlaySpans x, int instrument) {
        int sum = 0;
        for (int i = 0; i < 40; i++) {
            sum += x.event(0, i * 40, 40, 58 + i % 3, -1, -1);
        }
        for (int i = 0; i < 40; i++) {
            sum += x.pin(i, -1) + x.states(i) + x.state(i, 0, 1) + x.step(i, 0, 0) + x.price() + x.way(i) + x.stuck()
                    + x.about(i, 7);
        }
        sum += x.ways(300) + x.told(4) + x.bound(0, instrument);
        for (int i = 0; i < 40; i++) {
            sum += x.drop();
        }
        return sum;
    }

    private static void room() {
        com.sun.management.ThreadMXBean threads = (com.sun.management.ThreadMXBean) ManagementFactory.getThreadMXBean();
        long thread = Thread.currentThread().getId();
        for (int instrument = 0; instrument < 5; instrument++) {
            long first = threads.getThreadAllocatedBytes(thread);
            PlaySpans x = new PlaySpans(instrument);
            long made = threads.getThreadAllocatedBytes(thread);
            for (int n = 0; n < 20; n++) {
                useAll(x, instrument);
            }
            long used = threads.getThreadAllocatedBytes(thread);
            check("a new object is small: " + (made - first), made - first < 400000);
            check("8,000 calls make nothing: " + (used - made), used - made < 20000);
        }
    }

    public static void main(String[] args) throws Exception {
        face();
        language();
        room();
        System.out.println(wrong == 0 ? "the face, the language and the room are as due" : wrong + " things are not so");
        if (wrong != 0) {
            System.exit(1);
        }
    }
}
