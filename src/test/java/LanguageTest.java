import java.io.IOException;
import java.lang.reflect.Array;
import java.lang.reflect.Field;
import java.lang.reflect.Modifier;
import java.nio.file.Files;
import java.nio.file.Path;
import java.util.Arrays;
import java.util.LinkedHashMap;
import java.util.List;
import java.util.Map;
import java.util.Set;
import java.util.TreeMap;
import java.util.TreeSet;
import java.util.regex.Matcher;
import java.util.regex.Pattern;

/**
 * The rules of LANGUAGE.md that can be read off src/main/java/LampHills.java, or measured on an object;
 * those that can be read off the compiled class are in FaceTest.
 */
final class LanguageTest {
    private static final Due DUE = new Due();
    private static final Pattern COMMENT = Pattern.compile("/\\*.*?\\*/|//[^\n]*", Pattern.DOTALL);
    private static final Pattern TEXT = Pattern.compile("\"[^\"]*\"");
    private static final Pattern WORD = Pattern.compile("\\b[A-Za-z_]\\w*\\b");
    private static final Pattern OF_LIBRARY = Pattern.compile("\\b(Math|System|String|Integer|Long)\\.(\\w+)");
    private static final Pattern METHOD = Pattern.compile(
            "\n( +)((?:public |private |static |final )*)(\\w+(?:\\[\\])* )?(\\w+)\\(([^()]*)\\)"
            + "(?:\\s+throws [\\w, ]+)? \\{\n(.*?)\n\\1\\}", Pattern.DOTALL);
    private static final Pattern CALL = Pattern.compile("(\\bnew )?\\b(\\w+)\\(");
    private static final Pattern LOOP = Pattern.compile("\\bfor \\((.*?)\\) \\{\n");
    private static final Pattern BOUNDED = Pattern.compile("int (\\w+) = [^;]+; (?:\\1) <=? [^;]+; \\1\\+\\+");

    // Some of these words the rules allow; what comes with them (ends of while, tests for null) is then to
    // be looked at here.
    private static final List<String> FORBIDDEN = Arrays.asList("package", "import", "synchronized", "assert",
            "finally", "try", "catch", "while", "do", "native", "volatile", "transient", "strictfp", "var",
            "protected", "float", "equals", "hashCode", "toString", "getClass", "null", "this", "goto");
    private static final Set<String> LIBRARY = new TreeSet<>(Arrays.asList("Math.max", "Math.min", "Math.abs",
            "System.arraycopy"));
    private static final Set<String> THROWN = new TreeSet<>(Arrays.asList("IllegalStateException",
            "IllegalArgumentException", "IndexOutOfBoundsException"));
    private static final Set<String> OWN = new TreeSet<>(Arrays.asList("LampHills", "Town", "Night"));
    private static final int DEEPEST = 8;
    private static final int LONGEST = 60;

    private final String source;
    private final String code;
    // The code of each method by its name: no two methods of the file have the same one.
    private final Map<String, String> methods = new LinkedHashMap<>();

    public static void main(String[] args) throws IOException {
        LanguageTest test = new LanguageTest(Files.readString(Path.of("src/main/java/LampHills.java")));
        test.words();
        test.texts();
        test.library();
        test.methods();
        test.thrown();
        test.loops();
        test.made();
        test.depth();
        room();
        DUE.end();
    }

    private LanguageTest(String source) {
        this.source = source;
        code = TEXT.matcher(COMMENT.matcher(source).replaceAll("")).replaceAll("\"\"");
    }

    // ---- rules 2 to 6, and 13

    private void words() {
        Matcher word = WORD.matcher(code);
        while (word.find()) {
            String one = word.group();
            DUE.is("the word " + one, 0, FORBIDDEN.contains(one) ? 1 : 0);
            boolean type = one.length() > 1 && Character.isUpperCase(one.charAt(0))
                    && !one.equals(one.toUpperCase());
            boolean known = OWN.contains(one) || THROWN.contains(one) || one.equals("Math")
                    || one.equals("System");
            DUE.is("the type " + one, 0, type && !known ? 1 : 0);
        }
        for (String sign : new String[] {"->", "::", "@", "static {", "[][][]", "'"}) {
            DUE.is("the sign " + sign, 0, code.contains(sign) ? 1 : 0);
        }
    }

    private void texts() {
        for (int i = 0; i < source.length(); i++) {
            char sign = source.charAt(i);
            DUE.is("the sign " + (int) sign, 1, sign == '\n' || sign >= ' ' && sign <= '~' ? 1 : 0);
        }
        String written = COMMENT.matcher(source).replaceAll("");
        Matcher text = TEXT.matcher(written);
        while (text.find()) {
            String before = written.substring(0, text.start());
            DUE.is("a text that is thrown: " + text.group(), 1, before.endsWith("Exception(") ? 1 : 0);
            DUE.is("only one text: " + text.group(), 1, written.startsWith(");", text.end()) ? 1 : 0);
        }
    }

    private void library() {
        Matcher call = OF_LIBRARY.matcher(code);
        while (call.find()) {
            DUE.is(call.group(), 1, LIBRARY.contains(call.group()) ? 1 : 0);
        }
    }

    // ---- rules 1, 6 and 11

    private void methods() {
        Matcher method = METHOD.matcher(code);
        while (method.find()) {
            if (method.group(3) != null && !method.group(3).equals("else ")) {
                String name = method.group(4);
                DUE.is("the name " + name + " stands once", 0, methods.containsKey(name) ? 1 : 0);
                methods.put(name, method.group(6));
                DUE.is("lines of " + name, 1, method.group(6).split("\n").length <= LONGEST ? 1 : 0);
                DUE.is("parameters of " + name, 1, method.group(5).split(",").length <= 7 ? 1 : 0);
            }
        }
        int declared = 0;
        for (Class<?> type : new Class<?>[] {LampHills.class, LampHills.class.getDeclaredClasses()[0],
            LampHills.class.getDeclaredClasses()[1]}) {
            declared += Arrays.stream(type.getDeclaredMethods()).filter(one -> !one.isSynthetic()).count();
        }
        DUE.is("each method was read", declared, methods.size());
        DUE.is("classes inside", 2, LampHills.class.getDeclaredClasses().length);
    }

    /** Each throw is in a method, none in a constructor, and of an exception that the document names. */
    private void thrown() {
        int found = 0;
        for (String body : methods.values()) {
            Matcher one = Pattern.compile("\\bthrow\\b([^;]*);").matcher(body);
            while (one.find()) {
                found++;
                Matcher made = Pattern.compile(" new (\\w+)\\(\"\"\\)").matcher(one.group(1));
                DUE.is("throw" + one.group(1), 1, made.matches() && THROWN.contains(made.group(1)) ? 1 : 0);
            }
        }
        int all = code.split("\\bthrow\\b", -1).length - 1;
        DUE.is("throws outside methods", 0, all - found);
    }

    // ---- rules 8, 9 and 11

    /** Each loop counts up to a bound, and nothing in it sets the counter. */
    private void loops() {
        int found = 0;
        for (Map.Entry<String, String> method : methods.entrySet()) {
            Matcher loop = LOOP.matcher(method.getValue());
            while (loop.find()) {
                found++;
                Matcher bounded = BOUNDED.matcher(loop.group(1).replace(" && minute < NIGHT_MINUTES", ""));
                DUE.is("the loop " + loop.group(1), 1, bounded.matches() ? 1 : 0);
                if (bounded.matches()) {
                    String rest = method.getValue().substring(loop.end()).split("\n {0,8}\\}")[0];
                    String set = "\\b" + bounded.group(1) + "(\\+\\+|--| [-+*/]?= )";
                    boolean isSet = Pattern.compile("(?<!int )" + set).matcher(rest).find();
                    DUE.is("the counter of " + loop.group(1) + " is set", 0, isSet ? 1 : 0);
                }
            }
        }
        DUE.is("each loop was read", code.split("\\bfor \\(", -1).length - 1, found);
    }

    private void depth() {
        for (String name : methods.keySet()) {
            DUE.is("the depth of " + name, 1, depthOf(name, 1) <= DEEPEST ? 1 : 0);
        }
    }

    /** How deep the calls go that begin with a method; a recursion goes too deep. */
    private int depthOf(String name, int depth) {
        int deepest = depth;
        Matcher call = CALL.matcher(methods.get(name));
        while (depth <= DEEPEST && call.find()) {
            if (call.group(1) == null && methods.containsKey(call.group(2))) {
                deepest = Math.max(deepest, depthOf(call.group(2), depth + 1));
            }
        }
        return deepest;
    }

    // ---- rule 12

    /** What an object needs is made with it, so that no call makes anything but exceptions. */
    private void made() {
        for (Map.Entry<String, String> method : methods.entrySet()) {
            Matcher made = Pattern.compile("\\bnew \\w+").matcher(method.getValue());
            while (made.find()) {
                DUE.is(method.getKey() + " makes " + made.group(), 1,
                        made.group().endsWith("Exception") ? 1 : 0);
            }
            DUE.is(method.getKey() + " copies an array", 0, method.getValue().contains("clone") ? 1 : 0);
        }
    }

    /** An object holds as much behind 512 calls as at first: some 60 objects and 700 numbers. */
    private static void room() {
        LampHills hills = Towns.full();
        Map<String, Integer> before = held(new LampHills());
        for (int call = 94; call < 512; call += 4) {
            hills.pass(31);
            hills.darkest();
            hills.comes(19);
            hills.foresee(600, 2);
        }
        DUE.same("what is held behind many calls", before.toString(), held(hills).toString());
        DUE.is("objects and arrays", 1, before.get("objects") < 100 ? 1 : 0);
        DUE.is("fields and elements", 1, before.get("elements") < 1000 ? 1 : 0);
        DUE.is("something was counted", 1, before.get("objects") > 20 ? 1 : 0);
    }

    private static Map<String, Integer> held(Object object) {
        Map<String, Integer> sums = new TreeMap<>();
        sums.put("objects", 0);
        sums.put("elements", 0);
        addHeld(object, sums);
        return sums;
    }

    private static void addHeld(Object object, Map<String, Integer> sums) {
        sums.merge("objects", 1, Integer::sum);
        Class<?> type = object.getClass();
        if (type.isArray()) {
            sums.merge("elements", Array.getLength(object), Integer::sum);
            for (int i = 0; !type.getComponentType().isPrimitive() && i < Array.getLength(object); i++) {
                addHeld(Array.get(object, i), sums);
            }
            return;
        }
        for (Field field : type.getDeclaredFields()) {
            if (!Modifier.isStatic(field.getModifiers())) {
                sums.merge("elements", 1, Integer::sum);
                addField(object, field, sums);
            }
        }
    }

    private static void addField(Object object, Field field, Map<String, Integer> sums) {
        if (field.getType().isPrimitive()) {
            return;
        }
        try {
            field.setAccessible(true);
            addHeld(field.get(object), sums);
        } catch (IllegalAccessException e) {
            DUE.tell("the field " + field + " can't be read");
        }
    }
}
