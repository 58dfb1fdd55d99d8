import java.io.IOException;
import java.lang.reflect.InvocationTargetException;
import java.lang.reflect.Method;
import java.nio.file.Files;
import java.nio.file.Path;
import java.util.ArrayList;
import java.util.List;
import java.util.Set;
import java.util.TreeSet;
import java.util.regex.Matcher;
import java.util.regex.Pattern;

/** What README.md says of the class and of the tests is so; run from the project's directory. */
final class ReadmeTest {
    private static final Checks checks = new Checks();
    private static final Pattern CALL = Pattern.compile(
        "x\\.([a-z]+)\\(([^)]*)\\);\\s*// (-?\\d+|throws [A-Za-z]+)(:.*)?");

    public static void main(String[] args) throws IOException {
        String text = Files.readString(Path.of("README.md"));
        exampleAnswersAsTheClass(text);
        namedTestsAreThere(text);
        checks.finish();
    }

    private static void exampleAnswersAsTheClass(String text) {
        Matcher block = Pattern.compile("```java\n(.*?)```", Pattern.DOTALL).matcher(text);
        checks.due("an example", 1, block.find() ? 1 : 0);
        BlockLayer x = null;
        Set<String> called = new TreeSet<>();
        for (String line : block.group(1).split("\n")) {
            if (line.equals("BlockLayer x = new BlockLayer();")) {
                x = new BlockLayer();
            } else if (!line.isBlank()) {
                called.add(callOf(x, line));
            }
        }
        checks.due("methods of the example",
            "buffer crash drain load media newest policy queued request save step sync told used",
            String.join(" ", called));
    }

    /** The name of the method that the line calls; its answer stands behind the call as a comment. */
    private static String callOf(BlockLayer x, String line) {
        Matcher call = CALL.matcher(line);
        if (!call.matches()) {
            checks.due("a line of the example", "a call and its answer", line);
            return "";
        }
        checks.due("README.md: " + line, call.group(3), answerOf(x, call.group(1), call.group(2)));
        return call.group(1);
    }

    private static String answerOf(BlockLayer x, String name, String arguments) {
        List<Object> values = new ArrayList<>();
        List<Class<?>> types = new ArrayList<>();
        for (String argument : arguments.isBlank() ? new String[0] : arguments.split(",")) {
            values.add(Integer.valueOf(argument.trim()));
            types.add(int.class);
        }
        try {
            Method method = BlockLayer.class.getMethod(name, types.toArray(new Class<?>[0]));
            return method.invoke(x, values.toArray()).toString();
        } catch (InvocationTargetException e) {
            return "throws " + e.getCause().getClass().getSimpleName();
        } catch (ReflectiveOperationException e) {
            return e.toString();
        }
    }

    /** Each test that is named is there, and each that is there is named. */
    private static void namedTestsAreThere(String text) throws IOException {
        Set<String> named = new TreeSet<>();
        Matcher name = Pattern.compile("`([A-Za-z]+Test)`").matcher(text);
        while (name.find()) {
            named.add(name.group(1));
        }
        Set<String> there = new TreeSet<>();
        try (var files = Files.list(Path.of("src/test/java"))) {
            files.map(file -> file.getFileName().toString())
                .filter(file -> file.endsWith("Test.java"))
                .forEach(file -> there.add(file.substring(0, file.length() - ".java".length())));
        }
        checks.due("the tests", String.join(" ", there), String.join(" ", named));
    }
}
