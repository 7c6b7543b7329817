import java.io.IOException;
import java.lang.reflect.Field;
import java.lang.reflect.Modifier;
import java.nio.file.Files;
import java.nio.file.Path;
import java.util.regex.Matcher;
import java.util.regex.Pattern;

/** README.md tells every call and constant of the face, and its example answers what it says. */
public final class ReadmeTest {
    private static final Check check = new Check("ReadmeTest");
    private static final Pattern EXAMPLE_CALL = Pattern.compile("(?m)^house\\.(\\w+)\\((.*)\\);\\s*// ([-\\w]+)");
    private static final Pattern FACE_CALL = Pattern.compile("(?m)^    public int (\\w+)\\((.*)\\) \\{");

    public static void main(String[] args) throws IOException, ReflectiveOperationException {
        String readme = Files.readString(Path.of("README.md"));
        String source = Files.readString(Path.of("src/main/java/GongHouse.java"));
        exampleAnswersAsTold(readme);
        everyCallHasARow(readme, source);
        everyConstantIsTold(readme);
        everyTestIsTold(readme);
        check.end();
    }

    private static void exampleAnswersAsTold(String readme) throws ReflectiveOperationException {
        GongHouse house = new GongHouse();
        int calls = 0;
        for (Matcher m = EXAMPLE_CALL.matcher(readme); m.find(); calls++) {
            check.due(m.group(), call(house, m.group(1), m.group(2)), number(m.group(3)));
        }
        check.due("calls of the example that tell their answer", calls, readme.split("(?m)^house\\.").length - 1);
        check.holds("the example has calls", calls > 0);
    }

    private static int call(GongHouse house, String name, String told) throws ReflectiveOperationException {
        String[] given = told.isEmpty() ? new String[0] : told.split(", ");
        Class<?>[] types = new Class<?>[given.length];
        Object[] numbers = new Object[given.length];
        for (int i = 0; i < given.length; i++) {
            types[i] = int.class;
            numbers[i] = number(given[i]);
        }
        return (Integer) GongHouse.class.getMethod(name, types).invoke(house, numbers);
    }

    private static int number(String told) throws ReflectiveOperationException {
        String name = told.replace("GongHouse.", "");
        return Character.isUpperCase(name.charAt(0)) ? GongHouse.class.getField(name).getInt(null) : Integer.decode(name);
    }

    private static void everyCallHasARow(String readme, String source) {
        int calls = 0;
        for (Matcher m = FACE_CALL.matcher(source); m.find(); calls++) {
            String row = "\n| `" + m.group(1) + "(" + m.group(2).replace("int ", "") + ")` | ";
            check.holds("README.md has a row of" + row, readme.contains(row));
            check.holds("the example calls " + m.group(1), readme.contains("\nhouse." + m.group(1) + "("));
        }
        check.due("calls of the face", calls, 24);
    }

    private static void everyConstantIsTold(String readme) throws ReflectiveOperationException {
        for (Field f : GongHouse.class.getFields()) {
            check.holds(f.getName() + " is a constant", Modifier.isStatic(f.getModifiers()));
            Pattern told = Pattern.compile("`" + f.getName() + "`[ (|]+" + f.getInt(null) + "\\b");
            check.holds("README.md tells " + f.getName() + " with its value", told.matcher(readme).find());
        }
    }

    private static void everyTestIsTold(String readme) throws IOException {
        try (var files = Files.list(Path.of("src/test/java"))) {
            for (Path file : files.toList()) {
                String name = file.getFileName().toString().replace(".java", "");
                check.holds("README.md tells of " + name, !name.endsWith("Test") || Pattern.compile("[| ]" + name + "[, |]").matcher(readme).find());
            }
        }
    }
}
