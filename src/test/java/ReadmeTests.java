import java.io.File;
import java.io.IOException;
import java.lang.reflect.Method;
import java.lang.reflect.Modifier;
import java.nio.file.Files;
import java.nio.file.Path;
import java.util.HashMap;
import java.util.List;
import java.util.Map;
import java.util.Set;
import java.util.TreeSet;
import java.util.regex.Matcher;
import java.util.regex.Pattern;

/** What README.md shows of the class's use is done call by call, and must answer as README.md says. */
public final class ReadmeTests {
    private static final String README = "README.md";
    private static final String TESTS = "src/test/java";
    private static final Pattern NEW_OBJECT = Pattern.compile("SpeedRows (\\w+) = new SpeedRows\\(\\);");
    private static final Pattern CALL =
            Pattern.compile("(\\w+)\\.(\\w+)\\(([-0-9, ]*)\\); *// (true|false|-?[0-9]+)(:.*)?");
    private static final Set<String> shown = new TreeSet<>();
    private static final Map<String, SpeedRows> objects = new HashMap<>();
    private static int checked = 0;
    private static int wrong = 0;

    private static void hold(String what, boolean holds) {
        checked++;
        if (!holds) {
            wrong++;
            System.out.println(README + ": not so: " + what);
        }
    }

    private static Method named(String name) {
        for (Method method : SpeedRows.class.getDeclaredMethods()) {
            if (Modifier.isPublic(method.getModifiers()) && method.getName().equals(name)) {
                return method;
            }
        }
        return null;
    }

    private static Object[] numbers(String list) {
        if (list.isBlank()) {
            return new Object[0];
        }
        String[] texts = list.split(",");
        Object[] numbers = new Object[texts.length];
        for (int i = 0; i < texts.length; i++) {
            numbers[i] = Integer.valueOf(texts[i].trim());
        }
        return numbers;
    }

    private static void call(String line, Matcher parts) throws ReflectiveOperationException {
        SpeedRows object = objects.get(parts.group(1));
        Method method = named(parts.group(2));
        Object[] arguments = numbers(parts.group(3));
        if (object == null || method == null || method.getParameterCount() != arguments.length) {
            hold(line + " is a call of an object that was made", false);
            return;
        }
        String answer = method.invoke(object, arguments).toString();
        hold(line + " (answered " + answer + ")", answer.equals(parts.group(4)));
        shown.add(parts.group(2));
    }

    private static void line(String line) throws ReflectiveOperationException {
        Matcher made = NEW_OBJECT.matcher(line);
        Matcher call = CALL.matcher(line);
        if (made.matches()) {
            objects.put(made.group(1), new SpeedRows());
        } else if (call.matches()) {
            call(line, call);
        } else {
            hold(line + " is a line that this test can do", line.isBlank());
        }
    }

    private static void examples(List<String> lines) throws ReflectiveOperationException {
        boolean inside = false;
        for (String line : lines) {
            if (line.startsWith("```")) {
                inside = line.equals("```java");
            } else if (inside) {
                line(line);
            }
        }
    }

    private static String typed(Method method) {
        StringBuilder types = new StringBuilder();
        for (Class<?> type : method.getParameterTypes()) {
            types.append(types.length() == 0 ? "" : ", ").append(type).append(" \\w+");
        }
        return "`" + method.getReturnType() + " " + method.getName() + "\\(" + types + "\\)`";
    }

    private static void everyCall(String text) {
        for (Method method : SpeedRows.class.getDeclaredMethods()) {
            if (Modifier.isPublic(method.getModifiers())) {
                String name = method.getName();
                hold("an example has " + name, shown.contains(name));
                hold("the table has " + name, Pattern.compile("\\| " + typed(method) + " \\|").matcher(text).find());
            }
        }
    }

    private static void everyTest(String text) {
        String[] files = new File(TESTS).list();
        hold("there are tests in " + TESTS, files != null && files.length > 0);
        for (String file : files == null ? new String[0] : files) {
            hold("the tests have " + file, text.contains("`" + TESTS + "/" + file + "`"));
        }
        Matcher told = Pattern.compile("`(src/[\\w/]+\\.java)`").matcher(text);
        while (told.find()) {
            hold(told.group(1) + " is a file", new File(told.group(1)).isFile());
        }
        hold("it tells of .ci/run", text.contains("\n    .ci/run\n"));
        hold(".ci/run is a file", new File(".ci/run").isFile());
    }

    public static void main(String[] args) throws IOException, ReflectiveOperationException {
        List<String> lines = Files.readAllLines(Path.of(README));
        String text = String.join("\n", lines);
        examples(lines);
        everyCall(text);
        everyTest(text);
        System.out.println(checked + " things shown, " + wrong + " not so");
        if (wrong != 0) {
            System.exit(1);
        }
    }
}
