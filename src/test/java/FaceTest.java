import java.lang.reflect.Constructor;
import java.lang.reflect.Field;
import java.lang.reflect.Method;
import java.lang.reflect.Modifier;
import java.util.Arrays;
import java.util.TreeSet;

/** The public face: the document's constants, constructor and methods, and nothing beside them. */
public final class FaceTest {
    static final String[] CONSTANTS = {
        "DEEP = -4", "NEGATIVE = -3", "NONE = -1", "WIDE = -5", "ZERO = -2",
    };

    static final String[] METHODS = {
        "int fraction(long, long)",
        "int apply(int, int, int)",
        "int plain(int) throws ArithmeticException",
        "int root(int)",
        "int isSquare(int)",
        "int sign(int)",
        "int compare(int, int)",
        "int level(int)",
        "int coordinate(int, int)",
        "int radicand(int, int)",
        "int degree(int)",
        "int equation(int, int)",
        "int cut(int, int)",
        "int denest(int, int)",
        "int text(int)",
        "int letter(int) throws ArrayIndexOutOfBoundsException",
        "int result(int)",
        "int figure(int, int)",
        "int told(int)",
        "int clear()",
    };

    static int wrong = 0;

    static void due(String what, Object got, Object want) {
        if (!got.equals(want)) {
            wrong++;
            System.out.println(what + ": " + got + ", due is " + want);
        }
    }

    static String joined(Class<?>[] types) {
        StringBuilder s = new StringBuilder();
        for (Class<?> type : types) {
            s.append(s.length() == 0 ? "" : ", ").append(type.getSimpleName());
        }
        return s.toString();
    }

    static String written(Method m) {
        String thrown = joined(m.getExceptionTypes());
        String kind = Modifier.toString(m.getModifiers() & ~Modifier.PUBLIC);
        return (kind.isEmpty() ? "" : kind + " ") + m.getReturnType().getSimpleName() + " "
            + m.getName() + "(" + joined(m.getParameterTypes()) + ")"
            + (thrown.isEmpty() ? "" : " throws " + thrown);
    }

    static boolean isPrivate(int modifiers) {
        return Modifier.isPrivate(modifiers);
    }

    static void theClass() {
        Class<?> face = RootTowers.class;
        due("the class", Modifier.toString(face.getModifiers()), "public final");
        due("its package", face.getPackageName(), "");
        due("the class above it", face.getSuperclass(), Object.class);
        due("its interfaces", face.getInterfaces().length, 0);
    }

    static void constants() throws IllegalAccessException {
        TreeSet<String> got = new TreeSet<>();
        for (Field f : RootTowers.class.getDeclaredFields()) {
            if (!isPrivate(f.getModifiers())) {
                due(f.getName(), Modifier.toString(f.getModifiers()) + " " + f.getType(),
                    "public static final int");
                got.add(f.getName() + " = " + f.getInt(null));
            }
        }
        due("the constants", got, new TreeSet<>(Arrays.asList(CONSTANTS)));
    }

    static void constructors() {
        Constructor<?>[] all = RootTowers.class.getDeclaredConstructors();
        due("how many constructors", all.length, 1);
        due("the constructor", Modifier.toString(all[0].getModifiers()) + " ("
            + joined(all[0].getParameterTypes()) + ")", "public ()");
    }

    static void methods() {
        TreeSet<String> got = new TreeSet<>();
        TreeSet<String> open = new TreeSet<>();
        TreeSet<String> hidden = new TreeSet<>();
        for (Method m : RootTowers.class.getDeclaredMethods()) {
            if (isPrivate(m.getModifiers())) {
                hidden.add(m.getName());
            } else {
                due(m.getName() + " is public", Modifier.isPublic(m.getModifiers()), true);
                got.add(written(m));
                open.add(m.getName());
            }
        }
        due("the methods", got, new TreeSet<>(Arrays.asList(METHODS)));
        hidden.retainAll(open);
        due("private methods with the name of a public one", hidden, new TreeSet<String>());
    }

    static void classesInside() {
        for (Class<?> c : RootTowers.class.getDeclaredClasses()) {
            int modifiers = c.getModifiers();
            due(c.getName() + " is static", Modifier.isStatic(modifiers), true);
            due(c.getName() + " is open", Modifier.isPublic(modifiers)
                || Modifier.isProtected(modifiers), false);
        }
    }

    public static void main(String[] args) throws IllegalAccessException {
        theClass();
        constants();
        constructors();
        methods();
        classesInside();
        System.out.println(wrong == 0 ? "the face is the document's" : wrong + " not as due");
        if (wrong != 0) {
            System.exit(1);
        }
    }
}
