import java.lang.reflect.Constructor;
import java.lang.reflect.Field;
import java.lang.reflect.Method;
import java.lang.reflect.Modifier;
import java.util.Arrays;
import java.util.Set;
import java.util.TreeSet;

/** The face: all members of the document, and no other one that can be seen from outside. */
public final class FaceTest {
    private static final Due DUE = new Due("FaceTest");
    private static final String[] METHODS = {
        "boolean add(int, long, long, int, int, boolean) throws IllegalArgumentException",
        "boolean drop(int)",
        "void hurry(int, long) throws IllegalStateException, IllegalArgumentException",
        "int life(int, int) throws IllegalStateException, IllegalArgumentException",
        "int feed(int, long) throws IllegalArgumentException",
        "int wipe()",
        "int seal(int, int) throws IllegalStateException, IllegalArgumentException",
        "int size()",
        "long packet(int)",
        "int spoil(int, int) throws IndexOutOfBoundsException, IllegalArgumentException",
        "void cut(int) throws IllegalArgumentException",
        "void keep(int) throws IndexOutOfBoundsException",
        "int bring(int) throws IndexOutOfBoundsException",
        "int open()",
        "int got()",
        "long data(int)",
        "long told(int, int) throws IllegalStateException, IllegalArgumentException",
        "long given(int, int) throws IllegalStateException, IllegalArgumentException",
        "int name(int)",
    };

    private FaceTest() {
    }

    public static void main(String[] args) {
        Class<?> face = GuardedPackets.class;
        DUE.text("the class", Modifier.toString(face.getModifiers()), "public final");
        methods(face);
        fields(face);
        constructors(face);
        inside(face);
        DUE.finish();
    }

    private static void methods(Class<?> face) {
        Set<String> open = new TreeSet<>();
        Set<String> names = new TreeSet<>();
        for (Method m : face.getDeclaredMethods()) {
            if (!Modifier.isPrivate(m.getModifiers())) {
                open.add(text(m));
                names.add(m.getName());
                DUE.text(m.getName(), Modifier.toString(m.getModifiers()), "public");
            }
        }
        DUE.text("methods", open.toString(), new TreeSet<>(Arrays.asList(METHODS)).toString());
        for (Method m : face.getDeclaredMethods()) {
            boolean clash = Modifier.isPrivate(m.getModifiers()) && names.contains(m.getName());
            DUE.answer("a private method has a public one's name: " + m.getName(), clash, false);
        }
    }

    private static String text(Method m) {
        StringBuilder s = new StringBuilder();
        s.append(m.getReturnType()).append(' ').append(m.getName()).append('(');
        s.append(list(m.getParameterTypes())).append(')');
        if (m.getExceptionTypes().length > 0) {
            s.append(" throws ").append(list(m.getExceptionTypes()));
        }
        return s.toString();
    }

    private static String list(Class<?>[] types) {
        StringBuilder s = new StringBuilder();
        for (Class<?> type : types) {
            s.append(s.length() == 0 ? "" : ", ").append(type.getSimpleName());
        }
        return s.toString();
    }

    private static void fields(Class<?> face) {
        for (Field f : face.getDeclaredFields()) {
            String due = f.getName().equals("NONE") ? "public static final int" : "private";
            String got = Modifier.toString(f.getModifiers()) + " " + f.getType().getSimpleName();
            DUE.answer(f.getName() + " is " + got, got.startsWith(due), true);
        }
    }

    private static void constructors(Class<?> face) {
        Constructor<?>[] all = face.getDeclaredConstructors();
        DUE.answer("constructors", all.length, 1);
        DUE.text("the constructor", all[0].toString(), "public GuardedPackets()");
    }

    private static void inside(Class<?> face) {
        DUE.answer("at most twelve classes", face.getDeclaredClasses().length < 12, true);
        for (Class<?> c : face.getDeclaredClasses()) {
            DUE.answer(c + " is static", Modifier.isStatic(c.getModifiers()), true);
            DUE.answer(c + " is not public", Modifier.isPublic(c.getModifiers()), false);
            for (Field f : c.getDeclaredFields()) {
                boolean loose = Modifier.isStatic(f.getModifiers())
                    && !Modifier.isFinal(f.getModifiers());
                DUE.answer(f + " is static and not final", loose, false);
            }
        }
    }
}
