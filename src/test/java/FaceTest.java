import java.lang.reflect.Constructor;
import java.lang.reflect.Field;
import java.lang.reflect.Method;
import java.lang.reflect.Modifier;
import java.util.ArrayList;
import java.util.Arrays;
import java.util.List;
import java.util.TreeSet;

/** The public face of the document, and the rules of LANGUAGE.md that can be counted. */
final class FaceTest {
    private static final Due DUE = new Due();
    private static final String[] FACE = {
        "public int corner(int) throws IllegalArgumentException, IllegalStateException",
        "public int street(int, int, int) throws IndexOutOfBoundsException, IllegalArgumentException,"
                + " IllegalStateException",
        "public int lamp(int, int) throws IndexOutOfBoundsException, IllegalArgumentException,"
                + " IllegalStateException",
        "public int lid(int, int) throws IndexOutOfBoundsException, IllegalArgumentException",
        "public int setWind(int, int) throws IndexOutOfBoundsException, IllegalArgumentException",
        "public int hire(int, int, int) throws IndexOutOfBoundsException, IllegalArgumentException,"
                + " IllegalStateException",
        "public int round(int, int) throws IndexOutOfBoundsException, IllegalStateException",
        "public int fill(int, int) throws IndexOutOfBoundsException, IllegalArgumentException",
        "public int way(int, int) throws IndexOutOfBoundsException",
        "public int told(int, int) throws IndexOutOfBoundsException",
        "public int lighter(int, int) throws IndexOutOfBoundsException",
        "public int burning(int) throws IndexOutOfBoundsException",
        "public int count(int) throws IndexOutOfBoundsException",
        "public int pass(int) throws IllegalArgumentException",
        "public int dawn() throws IllegalStateException",
        "public int comes(int) throws IndexOutOfBoundsException",
        "public int darkest()",
        "public int needs(int) throws IndexOutOfBoundsException",
        "public int foresee(int, int) throws IllegalArgumentException, IndexOutOfBoundsException",
        "public double mean()",
        "public long digest()",
    };

    public static void main(String[] args) {
        int modifiers = LampHills.class.getModifiers();
        DUE.is("public final", 1, Modifier.isPublic(modifiers) && Modifier.isFinal(modifiers) ? 1 : 0);
        methods();
        constructors();
        fields();
        classes();
        DUE.end();
    }

    private static void methods() {
        TreeSet<String> want = new TreeSet<>(Arrays.asList(FACE));
        TreeSet<String> names = new TreeSet<>();
        TreeSet<String> got = new TreeSet<>();
        for (Method method : LampHills.class.getDeclaredMethods()) {
            if (!Modifier.isPrivate(method.getModifiers())) {
                got.add(written(method));
                names.add(method.getName());
            }
        }
        if (!got.equals(want)) {
            DUE.tell("the face is " + got + ", due is " + want);
        }
        for (Class<?> type : allClasses()) {
            for (Method method : type.getDeclaredMethods()) {
                boolean hidden = type != LampHills.class || Modifier.isPrivate(method.getModifiers());
                DUE.is("hidden " + method, 0, hidden && names.contains(method.getName()) ? 1 : 0);
                DUE.is("parameters of " + method, 1, method.getParameterCount() <= 7 ? 1 : 0);
            }
        }
    }

    private static String written(Method method) {
        List<String> parameters = new ArrayList<>();
        for (Class<?> type : method.getParameterTypes()) {
            parameters.add(type.getSimpleName());
        }
        List<String> thrown = new ArrayList<>();
        for (Class<?> type : method.getExceptionTypes()) {
            thrown.add(type.getSimpleName());
        }
        return Modifier.toString(method.getModifiers()) + " " + method.getReturnType().getSimpleName()
                + " " + method.getName() + "(" + String.join(", ", parameters) + ")"
                + (thrown.isEmpty() ? "" : " throws " + String.join(", ", thrown));
    }

    private static void constructors() {
        Constructor<?>[] all = LampHills.class.getDeclaredConstructors();
        DUE.is("constructors", 1, all.length);
        DUE.is("parameters of the constructor", 0, all[0].getParameterCount());
        DUE.is("the constructor is public", 1, Modifier.isPublic(all[0].getModifiers()) ? 1 : 0);
    }

    private static void fields() {
        for (Class<?> type : allClasses()) {
            int own = 0;
            for (Field field : type.getDeclaredFields()) {
                int modifiers = field.getModifiers();
                if (type == LampHills.class) {
                    DUE.is(field + " is private", 1, Modifier.isPrivate(modifiers) ? 1 : 0);
                }
                if (Modifier.isStatic(modifiers)) {
                    DUE.is(field + " is final", 1, Modifier.isFinal(modifiers) ? 1 : 0);
                } else {
                    own++;
                }
            }
            DUE.is("fields of " + type, 1, own <= 20 ? 1 : 0);
        }
    }

    private static void classes() {
        DUE.is("classes", 1, allClasses().size() <= 12 ? 1 : 0);
        for (Class<?> type : LampHills.class.getDeclaredClasses()) {
            int modifiers = type.getModifiers();
            DUE.is(type + " is static", 1, Modifier.isStatic(modifiers) ? 1 : 0);
            boolean open = Modifier.isPublic(modifiers) || Modifier.isProtected(modifiers);
            DUE.is(type + " is hidden", 0, open ? 1 : 0);
        }
    }

    private static List<Class<?>> allClasses() {
        List<Class<?>> all = new ArrayList<>();
        all.add(LampHills.class);
        all.addAll(Arrays.asList(LampHills.class.getDeclaredClasses()));
        return all;
    }
}
