import java.io.IOException;
import java.lang.reflect.InvocationTargetException;
import java.lang.reflect.Method;
import java.lang.reflect.Modifier;
import java.nio.file.Files;
import java.nio.file.Path;
import java.util.TreeSet;
import java.util.regex.Matcher;
import java.util.regex.Pattern;
import java.util.stream.Stream;

/** What README.md says is so: the answers of its example, the methods of its table, the names of the tests. */
public final class ReadmeTest {
    private static final Pattern BLOCK = Pattern.compile("```java\n(.*?)```", Pattern.DOTALL);
    private static final Pattern MAKING = Pattern.compile("DottedMaps maps = new DottedMaps\\((\\d+)\\);");
    private static final Pattern CALL = Pattern.compile("maps\\.(\\w+)\\((.*?)\\); +// (.*?): .+");
    private static final Pattern ROW = Pattern.compile("\\| `(\\w+)\\((.*?)\\)` \\|");
    private static final Pattern TEST = Pattern.compile("`(\\w+Test)`");

    private final Due due = new Due();
    private final String readme;

    private ReadmeTest(String readme) {
        this.readme = readme;
    }

    public static void main(String[] args) throws IOException {
        ReadmeTest test = new ReadmeTest(Files.readString(Path.of("README.md")));
        test.example();
        test.table();
        test.tests();
        test.due.end();
    }

    private void example() {
        Matcher block = BLOCK.matcher(readme);
        due.is("README has an example", block::find, true);
        String[] lines = block.group(1).split("\n");
        Matcher making = MAKING.matcher(lines[0]);
        due.is("README makes an object", making::matches, true);
        DottedMaps maps = new DottedMaps(Integer.parseInt(making.group(1)));
        for (int i = 1; i < lines.length; i++) {
            Matcher call = CALL.matcher(lines[i]);
            due.is("README has a call with its answer: " + lines[i], call::matches, true);
            due.is("README " + lines[i], () -> answer(maps, call.group(1), call.group(2).split(", ")), call.group(3));
        }
    }

    private static String answer(DottedMaps maps, String name, String[] arguments) {
        Method method = Stream.of(DottedMaps.class.getDeclaredMethods())
            .filter(m -> m.getName().equals(name)).findFirst().orElseThrow();
        Object[] values = new Object[arguments.length];
        for (int i = 0; i < values.length; i++) {
            boolean number = method.getParameterTypes()[i] == int.class;
            values[i] = number ? (Object) Integer.valueOf(arguments[i]) : Boolean.valueOf(arguments[i]);
        }
        try {
            return String.valueOf(method.invoke(maps, values));
        } catch (InvocationTargetException e) {
            return "throws " + e.getCause().getClass().getSimpleName();
        } catch (IllegalAccessException e) {
            return "cannot be called";
        }
    }

    private void table() {
        TreeSet<String> methods = new TreeSet<>();
        for (Method method : DottedMaps.class.getDeclaredMethods()) {
            if (Modifier.isPublic(method.getModifiers())) {
                methods.add(method.getName() + " with " + method.getParameterCount());
            }
        }
        TreeSet<String> told = new TreeSet<>();
        Matcher row = ROW.matcher(readme);
        while (row.find()) {
            told.add(row.group(1) + " with " + row.group(2).split(", ").length);
        }
        due.is("README tells every public method", () -> told, methods);
    }

    private void tests() throws IOException {
        TreeSet<String> there = new TreeSet<>();
        try (Stream<Path> files = Files.list(Path.of("src/test/java"))) {
            files.forEach(file -> there.add(file.getFileName().toString().replace(".java", "")));
        }
        for (String name : there) {
            due.is("README names " + name, () -> readme.contains("`" + name + "`"), true);
        }
        Matcher test = TEST.matcher(readme);
        while (test.find()) {
            String name = test.group(1);
            due.is("README names a test that is there: " + name, () -> there.contains(name), true);
        }
    }
}
