import java.io.IOException;
import java.lang.reflect.Field;
import java.lang.reflect.Method;
import java.lang.reflect.Modifier;
import java.nio.file.Files;
import java.nio.file.Path;
import java.util.ArrayList;
import java.util.Arrays;
import java.util.List;
import java.util.TreeSet;
import java.util.regex.Matcher;
import java.util.regex.Pattern;
import java.util.stream.Stream;

/** README.md: what its example says is what the program answers, and it leaves out no call, class or test. */
public final class ReadmeTest {
    private static final String MAKING = "BoundEnding best = new BoundEnding();";
    private static final Pattern CALL = Pattern.compile("best\\.(\\w+)\\(([-\\d, ]*)\\); *// (-?\\d+)(:.*)?");
    private static final Pattern ROW = Pattern.compile("\\| `(\\w+)\\(([\\w, ]*)\\)` \\|.*");
    private static int wrong = 0;

    private static void check(boolean holds, String what) {
        if (!holds) {
            wrong++;
            System.out.println(what);
        }
    }

    private static List<String> parts(String list) {
        return list.isEmpty() ? new ArrayList<>() : Arrays.asList(list.split(", "));
    }

    private static Method method(String name, int arguments) throws NoSuchMethodException {
        Class<?>[] types = new Class<?>[arguments];
        Arrays.fill(types, int.class);
        return BoundEnding.class.getMethod(name, types);
    }

    private static int answer(BoundEnding x, String name, List<String> arguments) throws ReflectiveOperationException {
        Object[] numbers = new Object[arguments.size()];
        for (int i = 0; i < numbers.length; i++) {
            numbers[i] = Integer.valueOf(arguments.get(i));
        }
        return (Integer) method(name, numbers.length).invoke(x, numbers);
    }

    /** Every line of the example is a call with its answer, so that none stands there unread. */
    private static void example(List<String> readme) throws ReflectiveOperationException {
        int start = readme.indexOf("```java");
        check(start >= 0 && start == readme.lastIndexOf("```java"), "there is not one example");
        check(readme.get(start + 1).equals(MAKING), "the example does not begin with " + MAKING);
        BoundEnding best = new BoundEnding();
        int calls = 0;
        for (int i = start + 2; i < readme.size() && !readme.get(i).equals("```"); i++) {
            Matcher call = CALL.matcher(readme.get(i));
            if (call.matches()) {
                calls++;
                int got = answer(best, call.group(1), parts(call.group(2)));
                check(got == Integer.parseInt(call.group(3)), readme.get(i) + " -- but the answer is " + got);
            } else {
                check(readme.get(i).isEmpty(), "the example's line can't be read: " + readme.get(i));
            }
        }
        check(calls > 0, "the example has no calls");
    }

    private static void calls(List<String> readme) {
        TreeSet<String> told = new TreeSet<>();
        for (String line : readme) {
            Matcher row = ROW.matcher(line);
            if (row.matches()) {
                check(told.add(row.group(1) + " of " + parts(row.group(2)).size()), "two rows for " + row.group(1));
            }
        }
        TreeSet<String> due = new TreeSet<>();
        for (Method method : BoundEnding.class.getDeclaredMethods()) {
            if (Modifier.isPublic(method.getModifiers())) {
                due.add(method.getName() + " of " + method.getParameterCount());
            }
        }
        check(told.equals(due), "the calls told are " + told + ", those of the class are " + due);
    }

    private static void constants(String readme) throws IllegalAccessException {
        for (Field field : BoundEnding.class.getFields()) {
            String words = "`" + field.getName() + "`( \\(| is )" + field.getInt(null) + "\\b";
            check(Pattern.compile(words).matcher(readme).find(), "the value of " + field.getName() + " is not told");
        }
    }

    private static void insides(List<String> readme) {
        TreeSet<String> told = new TreeSet<>();
        for (String line : readme.subList(readme.indexOf("## Inside"), readme.indexOf("## Tests"))) {
            if (line.startsWith("| `")) {
                told.add(line.substring(3, line.indexOf('`', 3)));
            }
        }
        TreeSet<String> due = new TreeSet<>();
        for (Class<?> inside : BoundEnding.class.getDeclaredClasses()) {
            due.add(inside.getSimpleName());
        }
        check(told.equals(due), "the classes told are " + told + ", those inside are " + due);
    }

    private static void tests(List<String> readme, Path root) throws IOException {
        check(readme.contains(".ci/run"), "how the tests are run is not told");
        TreeSet<String> told = new TreeSet<>();
        for (String line : readme.subList(readme.indexOf("## Tests"), readme.size())) {
            if (line.startsWith("- `")) {
                told.add(line.substring(3, line.indexOf('`', 3)) + ".java");
            }
        }
        TreeSet<String> due = new TreeSet<>();
        try (Stream<Path> files = Files.walk(root.resolve("src/test/java"))) {
            files.filter(Files::isRegularFile).forEach(file -> due.add(file.getFileName().toString()));
        }
        check(told.equals(due), "the tests told are " + told + ", those of the project are " + due);
    }

    public static void main(String[] args) throws IOException, ReflectiveOperationException {
        Path program = Path.of(System.getProperty("program", "src/main/java/BoundEnding.java")).toAbsolutePath();
        Path root = program.getParent().getParent().getParent().getParent();
        List<String> readme = Files.readAllLines(root.resolve("README.md"));
        example(readme);
        calls(readme);
        constants(String.join("\n", readme));
        insides(readme);
        tests(readme, root);
        System.out.println(wrong == 0 ? "README.md says what is so" : wrong + " things in README.md are not so");
        if (wrong != 0) {
            System.exit(1);
        }
    }
}
