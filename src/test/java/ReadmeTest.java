import java.io.IOException;
import java.lang.reflect.Field;
import java.lang.reflect.Method;
import java.lang.reflect.Modifier;
import java.nio.file.DirectoryStream;
import java.nio.file.Files;
import java.nio.file.Path;
import java.util.ArrayList;
import java.util.Arrays;
import java.util.List;
import java.util.regex.Matcher;
import java.util.regex.Pattern;

/** README.md: its examples answer what stands behind them, and it tells of each method, constant and test. */
public final class ReadmeTest {
    private static final Path README = Path.of("README.md");
    private static final Path TESTS = Path.of("src", "test", "java");
    private static final String NEW_STORE = "SavepointStore store = new SavepointStore();";
    private static final Pattern TYPED =
            Pattern.compile("for \\(char sign : \"([^\"]*)\"\\.toCharArray\\(\\)\\) store\\.append\\(sign\\);");
    private static final Pattern CALL = Pattern.compile("store\\.(\\w+)\\((.*)\\); +// ([\\w.-]+): .*");

    private final Checks checks = new Checks();
    private SavepointStore store = new SavepointStore();

    private ReadmeTest() {
    }

    public static void main(String[] args) throws IOException, ReflectiveOperationException {
        ReadmeTest test = new ReadmeTest();
        List<String> lines = Files.readAllLines(README);
        test.examples(lines);
        test.members(String.join("\n", lines));
        test.tests(String.join("\n", lines));
        test.checks.end();
    }

    private void examples(List<String> lines) throws ReflectiveOperationException {
        int calls = 0;
        boolean isExample = false;
        for (String line : lines) {
            if (line.startsWith("```")) {
                isExample = line.equals("```java");
            } else if (isExample) {
                calls += example(line) ? 1 : 0;
            }
        }
        checks.holds("there are examples", calls > 0);
    }

    /** Whether the line is a call with its answer. */
    private boolean example(String line) throws ReflectiveOperationException {
        Matcher typed = TYPED.matcher(line);
        Matcher call = CALL.matcher(line);
        if (line.equals(NEW_STORE)) {
            store = new SavepointStore();
        } else if (typed.matches()) {
            Checks.type(store, typed.group(1));
        } else if (call.matches()) {
            checks.dueDouble(line, answer(call.group(1), call.group(2)), number(call.group(3)));
            return true;
        } else {
            checks.holds("it can be read: " + line, false);
        }
        return false;
    }

    private double answer(String name, String arguments) throws ReflectiveOperationException {
        List<Object> values = new ArrayList<>();
        for (String argument : arguments.isEmpty() ? new String[0] : arguments.split(", ")) {
            values.add(argument.startsWith("'") ? (Object) (int) argument.charAt(1) : Integer.valueOf(argument));
        }
        Class<?>[] types = new Class<?>[values.size()];
        Arrays.fill(types, int.class);
        Object answer = SavepointStore.class.getMethod(name, types).invoke(store, values.toArray());
        return ((Number) answer).doubleValue();
    }

    private static double number(String told) throws ReflectiveOperationException {
        boolean isName = Character.isLetter(told.charAt(0));
        return isName ? SavepointStore.class.getField(told).getInt(null) : Double.parseDouble(told);
    }

    private void members(String page) throws ReflectiveOperationException {
        for (Method method : SavepointStore.class.getDeclaredMethods()) {
            if (Modifier.isPublic(method.getModifiers())) {
                checks.holds("it tells of " + method, page.contains("`" + method.getName() + "`"));
            }
        }
        for (Field field : SavepointStore.class.getFields()) {
            checks.holds("it tells of " + field,
                    page.contains("`" + field.getName() + "` (" + field.getInt(null) + ")"));
        }
    }

    private void tests(String page) throws IOException {
        try (DirectoryStream<Path> sources = Files.newDirectoryStream(TESTS, "*Test.java")) {
            for (Path source : sources) {
                String name = source.getFileName().toString().replace(".java", "");
                checks.holds("it tells of " + name, page.contains("`" + name + "`"));
            }
        }
    }
}
