import java.io.IOException;
import java.lang.reflect.InvocationTargetException;
import java.lang.reflect.Method;
import java.nio.file.DirectoryStream;
import java.nio.file.Files;
import java.nio.file.Path;
import java.util.ArrayList;
import java.util.Arrays;
import java.util.List;
import java.util.TreeSet;
import java.util.regex.Matcher;
import java.util.regex.Pattern;

/**
 * What README.md says holds: each line of its examples is called and answers what stands behind it, its
 * tables tell the calls of the face and what they throw in order, and its list of tests is whole; and
 * the tests that SENTENCES.md lists are there and are called.
 */
final class ReadmeTest {
    private static final Due DUE = new Due();
    private static final Path TESTS = Path.of("src/test/java");
    private static final Pattern NEW = Pattern.compile("LampHills hills = new LampHills\\(\\);");
    private static final Pattern LINE = Pattern.compile("hills\\.(\\w+)\\(([-\\d, ]*)\\);\\s+// ([^:]+): .+");
    private static final Pattern CALL_ROW = Pattern.compile("\\| `(\\w+)\\(([\\w, ]*)\\)` \\| .+ \\| (.+) \\|");
    private static final Pattern TEST_ROW = Pattern.compile("\\| `(\\w+Test)` \\| .+ \\|");
    private static final Pattern THROWN = Pattern.compile("`(\\w+Exception)`: [^;`]+(?:; )?");
    private static final Pattern TEST = Pattern.compile("`(\\w+)(?:\\.(\\w+))?`");

    public static void main(String[] args) throws IOException {
        List<String> readme = Files.readAllLines(Path.of("README.md"));
        examples(readme);
        calls(readme);
        tests(readme);
        sentences(Files.readAllLines(Path.of("src/test/SENTENCES.md")));
        DUE.end();
    }

    // ---- the examples

    private static void examples(List<String> readme) {
        boolean inside = false;
        LampHills hills = null;
        TreeSet<String> called = new TreeSet<>();
        for (String line : readme) {
            Matcher call = LINE.matcher(line);
            if (line.startsWith("```")) {
                inside = line.equals("```java");
            } else if (inside && NEW.matcher(line).matches()) {
                hills = new LampHills();
            } else if (inside && call.matches() && hills != null) {
                called.add(call.group(1));
                DUE.same(line.trim(), call.group(3), answer(hills, call.group(1), call.group(2)));
            } else if (inside) {
                DUE.tell("README.md: no call that can be made: " + line);
            }
        }
        for (String name : new String[] {"corner", "street", "lamp", "hire", "round", "pass", "dawn"}) {
            DUE.is("the examples call " + name, 1, called.contains(name) ? 1 : 0);
        }
    }

    private static String answer(LampHills hills, String name, String arguments) {
        Object[] with = Arrays.stream(arguments.split(", ")).filter(one -> !one.isEmpty())
                .map(Integer::valueOf).toArray();
        try {
            return String.valueOf(called(name, with.length).invoke(hills, with));
        } catch (InvocationTargetException e) {
            return "throws " + e.getCause().getClass().getSimpleName();
        } catch (ReflectiveOperationException e) {
            return "there is no such call";
        }
    }

    private static Method called(String name, int parameters) throws NoSuchMethodException {
        Class<?>[] types = new Class<?>[parameters];
        Arrays.fill(types, int.class);
        return LampHills.class.getMethod(name, types);
    }

    // ---- the tables

    private static void calls(List<String> readme) {
        TreeSet<String> missing = new TreeSet<>();
        for (Method method : LampHills.class.getDeclaredMethods()) {
            if ((method.getModifiers() & java.lang.reflect.Modifier.PUBLIC) != 0) {
                missing.add(method.getName());
            }
        }
        for (String line : readme) {
            Matcher row = CALL_ROW.matcher(line);
            if (row.matches()) {
                DUE.is("README.md tells " + row.group(1) + " once", 1, missing.remove(row.group(1)) ? 1 : 0);
                int parameters = row.group(2).isEmpty() ? 0 : row.group(2).split(", ").length;
                DUE.same("what " + row.group(1) + " throws", declared(row.group(1), parameters),
                        told(row.group(3)));
            }
        }
        DUE.same("calls that README.md does not tell", "[]", missing.toString());
    }

    private static String declared(String name, int parameters) {
        List<String> thrown = new ArrayList<>();
        try {
            for (Class<?> type : called(name, parameters).getExceptionTypes()) {
                thrown.add(type.getSimpleName());
            }
        } catch (NoSuchMethodException e) {
            return "no such call";
        }
        return thrown.toString();
    }

    private static String told(String text) {
        List<String> thrown = new ArrayList<>();
        Matcher one = THROWN.matcher(text);
        while (one.find()) {
            thrown.add(one.group(1));
        }
        boolean whole = text.equals("nothing") ? thrown.isEmpty() : one.reset().replaceAll("").isEmpty();
        return whole ? thrown.toString() : "what can't be read: " + text;
    }

    private static void tests(List<String> readme) throws IOException {
        TreeSet<String> listed = new TreeSet<>();
        for (String line : readme) {
            Matcher row = TEST_ROW.matcher(line);
            if (row.matches()) {
                listed.add(row.group(1));
            }
        }
        TreeSet<String> there = new TreeSet<>();
        try (DirectoryStream<Path> files = Files.newDirectoryStream(TESTS, "*Test.java")) {
            for (Path file : files) {
                there.add(file.getFileName().toString().replace(".java", ""));
            }
        }
        DUE.same("the tests that README.md lists", there.toString(), listed.toString());
    }

    // ---- SENTENCES.md

    private static void sentences(List<String> lines) throws IOException {
        TreeSet<String> named = new TreeSet<>();
        for (String line : lines) {
            if (line.startsWith("| ") && !line.startsWith("| Sentence |")) {
                Matcher test = TEST.matcher(line.substring(line.lastIndexOf(" | ")));
                int tests = 0;
                while (test.find()) {
                    tests++;
                    named.add(test.group(1));
                    DUE.is("there is " + test.group(), 1, isThere(test.group(1), test.group(2)) ? 1 : 0);
                }
                DUE.is("a test for: " + line, 1, tests > 0 ? 1 : 0);
            }
        }
        DUE.same("the classes that hold sentences", "[EdgesTest, FaceTest, ForecastTest, LightersTest,"
                + " MinuteEdgesTest, MinutesTest, RefusedTest, TermsTest, ToldTest, TownTest]",
                named.toString());
    }

    private static boolean isThere(String name, String method) throws IOException {
        Path file = TESTS.resolve(name + ".java");
        if (!Files.exists(file)) {
            return false;
        }
        String text = Files.readString(file);
        return method == null || text.contains("\n    private static void " + method + "() {\n")
                && text.contains("\n        " + method + "();\n");
    }
}
