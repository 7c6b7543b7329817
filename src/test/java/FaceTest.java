import java.io.IOException;
import java.lang.reflect.Constructor;
import java.lang.reflect.Field;
import java.lang.reflect.Method;
import java.lang.reflect.Modifier;
import java.nio.file.Files;
import java.nio.file.Path;
import java.util.Set;
import java.util.TreeSet;
import java.util.regex.Pattern;

/** The document's face and nothing else, and the limits and words that LANGUAGE.md sets. */
public final class FaceTest {
    private static final Path SOURCE = Path.of("src/main/java/GongHouse.java");
    private static final Check check = new Check("FaceTest");

    public static void main(String[] args) throws IOException {
        constants();
        methods();
        fields();
        limits();
        words();
        check.end();
    }

    private static void constants() {
        check.due("BAD", GongHouse.BAD, -1000000001);
        check.due("NO", GongHouse.NO, -1000000002);
        check.due("FULL", GongHouse.FULL, -1000000003);
        check.due("NONE", GongHouse.NONE, -1000000005);
        check.due("NOTHING", GongHouse.NOTHING, -1000000011);
        check.due("INDEX", GongHouse.INDEX, -1000000013);
        check.due("SIZE", GongHouse.SIZE, -1000000014);
    }

    private static void methods() {
        Set<String> face = new TreeSet<>(Set.of("feed3", "trim1", "tune1", "told3", "isOf3", "strike5", "lay4", "together4",
            "wrong2", "use3", "part3", "signal2", "drop0", "round2", "plays4", "damps4", "strikes2", "ticks0", "leaps3",
            "choice2", "sheet2", "mark3", "copy5", "count1"));
        Set<String> found = new TreeSet<>();
        Set<String> publicNames = new TreeSet<>();
        for (Method m : GongHouse.class.getDeclaredMethods()) {
            if (!Modifier.isPrivate(m.getModifiers())) {
                check.holds(m + " is public, of the object and answers an int",
                    Modifier.isPublic(m.getModifiers()) && !Modifier.isStatic(m.getModifiers()) && m.getReturnType() == int.class);
                found.add(m.getName() + m.getParameterCount());
                publicNames.add(m.getName());
            }
        }
        check.holds("the methods are " + face + ": " + found, face.equals(found));
        for (Method m : GongHouse.class.getDeclaredMethods()) {
            check.holds(m + " bears no public name", !Modifier.isPrivate(m.getModifiers()) || !publicNames.contains(m.getName()));
        }
        for (Class<?> own : GongHouse.class.getDeclaredClasses()) {
            check.holds(own + " is static", Modifier.isStatic(own.getModifiers()) && !Modifier.isPublic(own.getModifiers()));
            for (Method m : own.getDeclaredMethods()) {
                check.holds(m + " bears no public name", !publicNames.contains(m.getName()));
            }
        }
        Constructor<?>[] made = GongHouse.class.getDeclaredConstructors();
        check.holds("one public constructor", made.length == 1 && Modifier.isPublic(made[0].getModifiers()) && made[0].getParameterCount() == 0);
        check.holds("the class is public and final", Modifier.isPublic(GongHouse.class.getModifiers()) && Modifier.isFinal(GongHouse.class.getModifiers()));
    }

    private static void fields() {
        Set<String> open = new TreeSet<>();
        for (Field f : GongHouse.class.getDeclaredFields()) {
            if (!Modifier.isPrivate(f.getModifiers())) {
                open.add(f.getName());
            }
            check.holds(f + " is final", Modifier.isFinal(f.getModifiers()));
        }
        Set<String> face = new TreeSet<>(Set.of("BAD", "NO", "FULL", "NONE", "NOTHING", "INDEX", "SIZE"));
        check.holds("the constants are " + face + ": " + open, face.equals(open));
    }

    /** Rule 11: at most seven parameters, some twelve classes, and some twenty fields beside a class's constants. */
    private static void limits() {
        Class<?>[] inside = GongHouse.class.getDeclaredClasses();
        check.holds("twelve classes at most", inside.length + 1 <= 12);
        isSmall(GongHouse.class);
        for (Class<?> own : inside) {
            isSmall(own);
        }
    }

    private static void isSmall(Class<?> own) {
        int fields = 0;
        for (Field f : own.getDeclaredFields()) {
            boolean isConstant = Modifier.isStatic(f.getModifiers());
            check.holds(f + " is final, if it is of the class", !isConstant || Modifier.isFinal(f.getModifiers()));
            fields += isConstant ? 0 : 1;
        }
        check.holds(own + " has twenty fields at most", fields <= 20);
        for (Method m : own.getDeclaredMethods()) {
            check.holds(m + " takes seven numbers at most", m.getParameterCount() <= 7);
        }
    }

    private static void words() throws IOException {
        String code = Files.readString(SOURCE).replaceAll("/\\*(?s:.*?)\\*/", " ").replaceAll("//.*", " ");
        String[] ruledOut = {"\\bthrow\\b", "\\btry\\b", "\\bcatch\\b", "\\bsynchronized\\b", "\\bassert\\b", "->", "::", "Exact\\b",
            "\\bpackage\\b", "\\bsuper\\b", "\\bSystem\\.(?!arraycopy)", "\\bObject\\b", "\\bMath\\.(?!abs|min|max)", "\\bwhile\\b", "[^\\x00-\\x7f]"};
        for (String word : ruledOut) {
            check.holds("without " + word, !Pattern.compile(word).matcher(code).find());
        }
    }
}
