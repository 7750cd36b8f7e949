import java.io.IOException;
import java.lang.reflect.InvocationTargetException;
import java.lang.reflect.Method;
import java.lang.reflect.Modifier;
import java.nio.file.DirectoryStream;
import java.nio.file.Files;
import java.nio.file.Path;
import java.util.ArrayList;
import java.util.List;
import java.util.Set;
import java.util.TreeSet;
import java.util.regex.Matcher;
import java.util.regex.Pattern;

/**
 * README.md: each line of its Java example is called in turn and must answer what the page says; its
 * tables must name every call with its arguments, and every test.
 */
public final class ReadmeTest {
    private static final Path PAGE = Path.of("README.md");
    private static final Path TESTS = Path.of("src", "test", "java");
    private static final String NEW_OBJECT = "GainsReckoner reckoner = new GainsReckoner();";
    // reckoner.name(1, 2);   // answer: words
    private static final Pattern CALL =
        Pattern.compile("reckoner\\.(\\w+)\\(([-\\d, ]*)\\);\\s*// ((?:throws )?[\\w.-]+)(?:: .+)?");
    private static final Pattern ROW_OF_CALL = Pattern.compile("\\| `(\\w+)\\(([\\w, ]*)\\)` \\| .+ \\|");
    private static final Pattern ROW_OF_TEST = Pattern.compile("\\| `(\\w+Test)` \\| .+ \\|");

    private static final Checks CHECKS = new Checks();

    public static void main(String[] args) throws IOException {
        List<String> page = Files.readAllLines(PAGE);
        theExample(page);
        CHECKS.same("calls in the table", callsOfTheFace(), firstOf(ROW_OF_CALL, page, true));
        CHECKS.same("tests in the table", testsOfTheProject(), firstOf(ROW_OF_TEST, page, false));
        CHECKS.end("ReadmeTest");
    }

    private static void theExample(List<String> page) {
        Set<String> called = new TreeSet<>();
        GainsReckoner reckoner = null;
        for (String line : linesOfJava(page)) {
            Matcher call = CALL.matcher(line);
            if (line.equals(NEW_OBJECT)) {
                reckoner = new GainsReckoner();
            } else if (reckoner != null && call.matches()) {
                called.add(call.group(1));
                CHECKS.same("README: " + line, valueOf(call.group(3)),
                    answer(reckoner, call.group(1), numbersIn(call.group(2))));
            } else if (!line.isBlank()) {
                CHECKS.same("README: " + line, "a call with its answer", "something else");
            }
        }
        for (String main : List.of("buy", "sell", "split", "cancel", "matches", "gain", "net", "taxable")) {
            CHECKS.same("the example calls " + main, true, called.contains(main));
        }
    }

    private static List<String> linesOfJava(List<String> page) {
        List<String> lines = new ArrayList<>();
        boolean inside = false;
        for (String line : page) {
            if (line.startsWith("```")) {
                inside = line.equals("```java");
            } else if (inside) {
                lines.add(line);
            }
        }
        return lines;
    }

    private static int[] numbersIn(String text) {
        String bare = text.replace(" ", "");
        if (bare.isEmpty()) {
            return new int[0];
        }
        String[] parts = bare.split(",");
        int[] numbers = new int[parts.length];
        for (int i = 0; i < parts.length; i++) {
            numbers[i] = Integer.parseInt(parts[i]);
        }
        return numbers;
    }

    /** What the page says, with the number in place of a constant's name. */
    private static String valueOf(String said) {
        switch (said) {
            case "GainsReckoner.NONE": return String.valueOf(GainsReckoner.NONE);
            case "GainsReckoner.SAME_DAY": return String.valueOf(GainsReckoner.SAME_DAY);
            case "GainsReckoner.LATER": return String.valueOf(GainsReckoner.LATER);
            case "GainsReckoner.POOL": return String.valueOf(GainsReckoner.POOL);
            default: return said;
        }
    }

    private static String answer(GainsReckoner reckoner, String name, int[] numbers) {
        Object[] boxed = new Object[numbers.length];
        Class<?>[] types = new Class<?>[numbers.length];
        for (int i = 0; i < numbers.length; i++) {
            boxed[i] = numbers[i];
            types[i] = int.class;
        }
        try {
            Method method = GainsReckoner.class.getMethod(name, types);
            Object told = method.invoke(reckoner, boxed);
            return method.getReturnType() == void.class ? "nothing" : String.valueOf(told);
        } catch (InvocationTargetException e) {
            return "throws " + e.getCause().getClass().getSimpleName();
        } catch (ReflectiveOperationException e) {
            return "no such call";
        }
    }

    /** The names in the rows of a table; for calls with the number of arguments after them. */
    private static Set<String> firstOf(Pattern row, List<String> page, boolean withArguments) {
        Set<String> names = new TreeSet<>();
        for (String line : page) {
            Matcher found = row.matcher(line);
            if (found.matches()) {
                names.add(withArguments ? found.group(1) + " " + arguments(found.group(2)) : found.group(1));
            }
        }
        return names;
    }

    private static int arguments(String list) {
        return list.isEmpty() ? 0 : list.split(",").length;
    }

    private static Set<String> callsOfTheFace() {
        Set<String> calls = new TreeSet<>();
        for (Method method : GainsReckoner.class.getDeclaredMethods()) {
            if (Modifier.isPublic(method.getModifiers())) {
                calls.add(method.getName() + " " + method.getParameterCount());
            }
        }
        return calls;
    }

    private static Set<String> testsOfTheProject() throws IOException {
        Set<String> tests = new TreeSet<>();
        try (DirectoryStream<Path> files = Files.newDirectoryStream(TESTS, "*Test.java")) {
            for (Path file : files) {
                tests.add(file.getFileName().toString().replace(".java", ""));
            }
        }
        return tests;
    }
}
