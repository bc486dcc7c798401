import java.io.IOException;
import java.lang.reflect.Method;
import java.lang.reflect.Modifier;
import java.nio.file.DirectoryStream;
import java.nio.file.Files;
import java.nio.file.Path;
import java.util.Set;
import java.util.TreeSet;
import java.util.regex.Matcher;
import java.util.regex.Pattern;

/** README.md: its example answers what it tells, and it names every call and every test. */
public final class ReadmeTest {
    private static final Pattern START = Pattern.compile("CatalogueSet x = new CatalogueSet\\((\\d+), (\\d+)\\);");
    private static final Pattern CALL = Pattern.compile("x\\.(\\w+)\\(([^)]*)\\); +// (-?\\d+): .+");

    private static final Checks checks = new Checks("ReadmeTest");

    public static void main(String[] args) throws IOException, ReflectiveOperationException {
        String text = Files.readString(Path.of("README.md"));
        Matcher example = Pattern.compile("(?s)```java\n(.*?)```").matcher(text);
        checks.due("whether there is an example", true, example.find());
        exampleHolds(example.group(1).split("\n"));
        testsAreNamed(text);
        checks.end();
    }

    private static void exampleHolds(String[] lines) throws ReflectiveOperationException {
        Matcher start = START.matcher(lines[0]);
        checks.due("whether the example begins with a new object", true, start.matches());
        CatalogueSet x = new CatalogueSet(Integer.parseInt(start.group(1)), Integer.parseInt(start.group(2)));
        Set<String> called = new TreeSet<>();
        for (int i = 1; i < lines.length; i++) {
            Matcher call = CALL.matcher(lines[i]);
            boolean isCall = call.matches();
            checks.due("whether '" + lines[i] + "' is a call with its answer", true, isCall);
            if (isCall) {
                called.add(call.group(1));
                checks.due(lines[i], Integer.parseInt(call.group(3)), answer(x, call.group(1), call.group(2)));
            }
        }
        Set<String> face = new TreeSet<>();
        for (Method method : CatalogueSet.class.getDeclaredMethods()) {
            if (Modifier.isPublic(method.getModifiers())) {
                face.add(method.getName());
            }
        }
        checks.due("the calls of the example", face, called);
    }

    private static Object answer(CatalogueSet x, String name, String given) throws ReflectiveOperationException {
        String[] numbers = given.isEmpty() ? new String[0] : given.split(", ");
        Class<?>[] types = new Class<?>[numbers.length];
        Object[] values = new Object[numbers.length];
        for (int i = 0; i < numbers.length; i++) {
            types[i] = int.class;
            values[i] = Integer.decode(numbers[i]);
        }
        return CatalogueSet.class.getMethod(name, types).invoke(x, values);
    }

    private static void testsAreNamed(String text) throws IOException {
        checks.due("whether it names .ci/run", true, text.contains(".ci/run"));
        try (DirectoryStream<Path> tests = Files.newDirectoryStream(Path.of("src/test/java"), "*Test.java")) {
            for (Path test : tests) {
                String name = test.getFileName().toString().replace(".java", "");
                checks.due("whether it names " + name, true, text.contains("`" + name + "`"));
            }
        }
    }
}
