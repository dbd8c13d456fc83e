import java.io.File;
import java.io.IOException;
import java.lang.reflect.Field;
import java.lang.reflect.Method;
import java.lang.reflect.Modifier;
import java.nio.file.Files;
import java.nio.file.Path;
import java.util.Map;
import java.util.Set;
import java.util.TreeMap;
import java.util.TreeSet;
import java.util.regex.Matcher;
import java.util.regex.Pattern;

/** What README.md says of how to use the class and of how to run its tests is so. */
public final class ReadmeTest {
    private static final Path README = Path.of("README.md");
    private static final Path TESTS = Path.of("src/test/java");
    private static final Path CI = Path.of(".ci/run");
    private static final Pattern ANSWERED_CALL = Pattern.compile("board\\.(\\w+)\\(([^)]*)\\); +// (-?\\d+): .+");
    private static int wrong = 0;

    private static void due(boolean holds, String what) {
        if (!holds) {
            wrong++;
            System.out.println("not so: " + what);
        }
    }

    public static void main(String[] args) throws IOException, ReflectiveOperationException {
        String text = Files.readString(README);
        example(block(text, "java"));
        calls(text);
        constants(text);
        tests(text);
        System.out.println(wrong == 0 ? "README.md is so" : wrong + " things are not so");
        if (wrong != 0) {
            System.exit(1);
        }
    }

    private static String block(String text, String language) {
        Matcher matcher = Pattern.compile("(?s)```" + language + "\n(.*?)```").matcher(text);
        boolean found = matcher.find();
        due(found, "there is an example in " + language);
        return found ? matcher.group(1) : "";
    }

    /** Each line of the example but the first is a call, and behind it stands what it answers. */
    private static void example(String code) throws ReflectiveOperationException {
        String[] lines = code.split("\n");
        due(lines[0].equals("NeedlePairs board = new NeedlePairs();"), "the example begins with a new object");
        due(lines.length > 10, "the example shows some calls");
        NeedlePairs board = new NeedlePairs();
        for (int k = 1; k < lines.length; k++) {
            Matcher matcher = ANSWERED_CALL.matcher(lines[k]);
            if (matcher.matches()) {
                int got = call(board, matcher.group(1), matcher.group(2));
                due(got == Integer.parseInt(matcher.group(3)), lines[k] + " (it answers " + got + ")");
            } else {
                due(false, "a call with its answer: " + lines[k]);
            }
        }
    }

    private static int call(NeedlePairs board, String name, String told) throws ReflectiveOperationException {
        String[] parts = told.isBlank() ? new String[0] : told.split(", ");
        Class<?>[] types = new Class<?>[parts.length];
        Object[] numbers = new Object[parts.length];
        for (int k = 0; k < parts.length; k++) {
            types[k] = int.class;
            numbers[k] = parts[k].startsWith("'") ? (int) parts[k].charAt(1) : Integer.parseInt(parts[k]);
        }
        return (Integer) NeedlePairs.class.getMethod(name, types).invoke(board, numbers);
    }

    /** The table of calls names all that there are, each with as many parameters as it has. */
    private static void calls(String text) {
        Set<String> named = new TreeSet<>();
        Matcher matcher = Pattern.compile("`(\\w+)\\(([a-z, ]*)\\)`").matcher(text);
        while (matcher.find()) {
            String parameters = matcher.group(2);
            named.add(matcher.group(1) + "/" + (parameters.isEmpty() ? 0 : parameters.split(", ").length));
        }
        Set<String> there = new TreeSet<>();
        for (Method method : NeedlePairs.class.getDeclaredMethods()) {
            if (Modifier.isPublic(method.getModifiers())) {
                there.add(method.getName() + "/" + method.getParameterCount());
            }
        }
        due(named.equals(there), "the calls are " + there + ", not " + named);
    }

    private static void constants(String text) throws ReflectiveOperationException {
        Map<String, Integer> named = new TreeMap<>();
        Matcher matcher = Pattern.compile("(?m)^\\| (-\\d+) \\| `([A-Z]+)` \\|").matcher(text);
        while (matcher.find()) {
            named.put(matcher.group(2), Integer.valueOf(matcher.group(1)));
        }
        Map<String, Integer> there = new TreeMap<>();
        for (Field field : NeedlePairs.class.getFields()) {
            there.put(field.getName(), field.getInt(null));
        }
        due(named.equals(there), "the constants are " + there + ", not " + named);
    }

    private static void tests(String text) {
        Set<String> named = new TreeSet<>();
        Matcher matcher = Pattern.compile("(?m)^- `src/test/java/(\\w+\\.java)`:").matcher(text);
        while (matcher.find()) {
            named.add(matcher.group(1));
        }
        Set<String> there = new TreeSet<>();
        File[] files = TESTS.toFile().listFiles((folder, name) -> name.endsWith(".java"));
        for (File file : files == null ? new File[0] : files) {
            there.add(file.getName());
        }
        due(named.equals(there), "the tests are " + there + ", not " + named);
        due(block(text, "sh").strip().equals(CI.toString()), "the tests are run by " + CI);
        due(Files.isExecutable(CI), CI + " can be run");
    }
}
