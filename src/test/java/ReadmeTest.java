import java.io.IOException;
import java.lang.reflect.Field;
import java.lang.reflect.InvocationTargetException;
import java.lang.reflect.Method;
import java.lang.reflect.Modifier;
import java.nio.file.Files;
import java.nio.file.Path;
import java.util.ArrayList;
import java.util.List;
import java.util.Set;
import java.util.TreeSet;
import java.util.regex.Matcher;
import java.util.regex.Pattern;
import java.util.stream.Stream;

/**
 * README.md: it is there, its run of calls answers as it says, its tables tell the constants and the
 * methods, and the tests and files that it names are there. It is run from the project's root.
 */
public final class ReadmeTest {
    private static final Path README = Path.of("README.md");
    private static final Path TESTS = Path.of("src/test/java");
    private static final String NEW_PAD = "InkPad pad = new InkPad();";
    private static final Pattern CALL =
            Pattern.compile("pad\\.(\\w+)\\((.*)\\); +// (-\\d+: [A-Z_]+|-?\\d+(: .+)?)");
    private static final int MOST_CALLS = 512;

    private final Due due;
    private final Set<String> called = new TreeSet<>();
    private InkPad pad = null;
    private int calls = 0;

    private ReadmeTest(Due due) {
        this.due = due;
    }

    public static void main(String[] args) throws IOException, IllegalAccessException {
        Due due = new Due();
        if (Files.isRegularFile(README)) {
            String text = Files.readString(README);
            new ReadmeTest(due).runOfCalls(text);
            constants(due, text);
            methods(due, text);
            tests(due, text);
            files(due, text);
        } else {
            due.wrong("there is no " + README);
        }
        due.end();
    }

    // ---- the run of calls

    private void runOfCalls(String text) throws IllegalAccessException {
        for (String line : javaLines(text)) {
            Matcher call = CALL.matcher(line);
            if (line.equals(NEW_PAD)) {
                pad = new InkPad();
                calls = 0;
            } else if (pad != null && call.matches()) {
                oneCall(line, call.group(1), call.group(2), call.group(3));
            } else {
                due.wrong("no call on a pad with its answer: " + line);
            }
        }
        if (!called.equals(publicMethods())) {
            due.wrong("the run calls " + called + ", there are " + publicMethods());
        }
    }

    /** The lines of all blocks of Java, one behind the other. */
    private static List<String> javaLines(String text) {
        List<String> lines = new ArrayList<>();
        boolean inJava = false;
        for (String line : text.split("\n")) {
            if (line.startsWith("```")) {
                inJava = line.equals("```java");
            } else if (inJava && !line.isBlank()) {
                lines.add(line);
            }
        }
        return lines;
    }

    private void oneCall(String line, String name, String arguments, String answer)
            throws IllegalAccessException {
        Object[] values = values(arguments);
        Method method = methodFor(name, values);
        if (method == null) {
            due.wrong("there is no such method: " + line);
            return;
        }
        calls++;
        called.add(name);
        String[] told = answer.split(": ", 2);
        try {
            due.is(line, (Integer) method.invoke(pad, values), Long.parseLong(told[0]));
        } catch (InvocationTargetException thrown) {
            due.wrong(line + " threw " + thrown.getCause());
        }
        if (calls > MOST_CALLS) {
            due.wrong("the pad has had its " + MOST_CALLS + " calls: " + line);
        }
        if (told.length == 2 && told[1].matches("[A-Z_]+")) {
            due.is(line + ", the constant", constant(told[1]), Long.parseLong(told[0]));
        }
    }

    /** Numbers, and characters in their signs; what is neither is null and fits no method. */
    private static Object[] values(String arguments) {
        String[] parts = arguments.isEmpty() ? new String[0] : arguments.split(", ");
        Object[] values = new Object[parts.length];
        for (int i = 0; i < parts.length; i++) {
            if (parts[i].matches("-?\\d+")) {
                values[i] = Integer.valueOf(parts[i]);
            } else if (parts[i].matches("'[^'\\\\]'")) {
                values[i] = parts[i].charAt(1);
            }
        }
        return values;
    }

    private static Method methodFor(String name, Object[] values) {
        for (Method method : InkPad.class.getDeclaredMethods()) {
            if (Modifier.isPublic(method.getModifiers()) && method.getName().equals(name)
                    && takes(method, values)) {
                return method;
            }
        }
        return null;
    }

    private static boolean takes(Method method, Object[] values) {
        Class<?>[] types = method.getParameterTypes();
        boolean all = types.length == values.length;
        for (int i = 0; all && i < types.length; i++) {
            all = types[i] == int.class && values[i] instanceof Integer
                    || types[i] == char.class && values[i] instanceof Character;
        }
        return all;
    }

    // ---- the tables

    private static Set<String> publicMethods() {
        Set<String> names = new TreeSet<>();
        for (Method method : InkPad.class.getDeclaredMethods()) {
            if (Modifier.isPublic(method.getModifiers())) {
                names.add(method.getName());
            }
        }
        return names;
    }

    /** The value of a public constant; a name that the class does not have is 0, as none is. */
    private static int constant(String name) throws IllegalAccessException {
        for (Field field : InkPad.class.getDeclaredFields()) {
            if (Modifier.isPublic(field.getModifiers()) && field.getName().equals(name)) {
                return field.getInt(null);
            }
        }
        return 0;
    }

    private static void constants(Due due, String text) throws IllegalAccessException {
        Set<String> told = new TreeSet<>();
        Matcher row = Pattern.compile("(?m)^\\| `([A-Z_]+)` \\| (-?\\d+) \\|").matcher(text);
        while (row.find()) {
            told.add(row.group(1));
            due.is("the table's " + row.group(1), constant(row.group(1)), Long.parseLong(row.group(2)));
        }
        for (Field field : InkPad.class.getDeclaredFields()) {
            if (Modifier.isPublic(field.getModifiers()) && !told.contains(field.getName())) {
                due.wrong("the table does not tell " + field.getName());
            }
        }
    }

    /** The methods stand in the order of their promises, from promise 2, with their parameters. */
    private static void methods(Due due, String text) {
        Set<String> told = new TreeSet<>();
        Pattern form = Pattern.compile("(?m)^\\| `(\\w+)\\((.*?)\\)` \\| .+ \\| (\\d+) \\|$");
        Matcher row = form.matcher(text);
        for (int promise = 2; row.find(); promise++) {
            String name = row.group(1);
            told.add(name);
            due.is("the table's promise of " + name, Long.parseLong(row.group(3)), promise);
            int parameters = row.group(2).isEmpty() ? 0 : row.group(2).split(", ").length;
            for (Method method : InkPad.class.getDeclaredMethods()) {
                if (method.getName().equals(name)) {
                    due.is("the table's parameters of " + name, parameters, method.getParameterCount());
                }
            }
        }
        if (!told.equals(publicMethods())) {
            due.wrong("the table tells " + told + ", there are " + publicMethods());
        }
    }

    // ---- tests and files

    /** Every test that is named is there, and every test that is there has a row in a table. */
    private static void tests(Due due, String text) throws IOException {
        Matcher named = Pattern.compile("\\b\\w+Test\\b").matcher(text);
        while (named.find()) {
            there(due, TESTS.resolve(named.group() + ".java"));
        }
        try (Stream<Path> files = Files.list(TESTS)) {
            files.map(file -> file.getFileName().toString())
                    .filter(file -> file.endsWith("Test.java"))
                    .map(file -> file.replace(".java", ""))
                    .filter(test -> !text.contains("\n| " + test + " | "))
                    .sorted()
                    .forEach(test -> due.wrong("no table tells of " + test));
        }
    }

    private static void files(Due due, String text) {
        Matcher path = Pattern.compile("`([\\w.]+(?:/[\\w.]+)+)`").matcher(text);
        int found = 0;
        while (path.find()) {
            there(due, Path.of(path.group(1)));
            found++;
        }
        if (found == 0) {
            due.wrong("no file is named");
        }
        for (String helper : new String[] {"Due", "Look", "Model"}) {
            there(due, TESTS.resolve(helper + ".java"));
        }
    }

    private static void there(Due due, Path path) {
        if (!Files.exists(path)) {
            due.wrong("README.md names " + path + ", which is not there");
        }
    }
}
