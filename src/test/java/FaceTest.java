import java.lang.reflect.Constructor;
import java.lang.reflect.Field;
import java.lang.reflect.Member;
import java.lang.reflect.Method;
import java.lang.reflect.Modifier;
import java.util.ArrayList;
import java.util.List;
import java.util.TreeSet;

/** The face of the class (promises 1 to 31): each member as the document writes it, and no other one. */
public final class FaceTest {
    private static final String[] METHODS = {
        "public int feed(long) throws IllegalArgumentException, IllegalStateException",
        "public int load() throws IllegalStateException",
        "public int keys(long)",
        "public int tick(int) throws IllegalArgumentException",
        "public int map(int, long, long, boolean) throws IllegalArgumentException, IllegalStateException",
        "public int unmap(int, long) throws IllegalArgumentException, IllegalStateException",
        "public boolean setWrap(boolean)",
        "public int lines()",
        "public int length(int) throws IndexOutOfBoundsException",
        "public char sign(int, int) throws IndexOutOfBoundsException",
        "public int line()",
        "public int column()",
        "public int mode()",
        "public int given()",
        "public int waiting()",
        "public int cursors()",
        "public int cursorAt(int) throws IndexOutOfBoundsException",
        "public int registerKind(char) throws IllegalArgumentException",
        "public int registerLength(char) throws IllegalArgumentException",
        "public char registerAt(char, int) throws IllegalArgumentException, IndexOutOfBoundsException",
        "public int mark(char) throws IllegalArgumentException",
        "public int folds()",
        "public int foldOf(int) throws IndexOutOfBoundsException",
        "public int jumps()",
        "public int state()",
        "public int states()",
        "public int parent(int) throws IndexOutOfBoundsException",
        "public int failures()",
        "public int taken()",
        "public boolean agrees()",
    };
    private static final String[] CONSTANTS = {"NONE", "NORMAL", "INSERT", "SIGNS", "LINES", "RECTS", "LINE",
        "SELECTION"};

    public static void main(String[] args) {
        methods();
        constants();
        constructors();
        classes();
        Probe.end();
    }

    private static boolean isOfFace(Member member) {
        return !Modifier.isPrivate(member.getModifiers()) && !member.isSynthetic();
    }

    private static String names(Class<?>[] types) {
        List<String> names = new ArrayList<>();
        for (Class<?> type : types) {
            names.add(type.getSimpleName());
        }
        return String.join(", ", names);
    }

    private static String told(Method method) {
        Class<?>[] thrown = method.getExceptionTypes();
        return Modifier.toString(method.getModifiers()) + " " + method.getReturnType().getSimpleName() + " "
            + method.getName() + "(" + names(method.getParameterTypes()) + ")"
            + (thrown.length == 0 ? "" : " throws " + names(thrown));
    }

    private static void methods() {
        TreeSet<String> got = new TreeSet<>();
        for (Method method : ModalPad.class.getDeclaredMethods()) {
            if (isOfFace(method)) {
                got.add(told(method));
            }
        }
        TreeSet<String> want = new TreeSet<>(List.of(METHODS));
        for (String method : want) {
            Probe.due("the face has " + method, got.contains(method), true);
        }
        got.removeAll(want);
        Probe.due("other methods of the face", got.toString(), "[]");
    }

    private static void constants() {
        TreeSet<String> got = new TreeSet<>();
        for (Field field : ModalPad.class.getDeclaredFields()) {
            if (isOfFace(field)) {
                got.add(field.getName());
                Probe.due("the constant " + field.getName(),
                    Modifier.toString(field.getModifiers()) + " " + field.getType(), "public static final int");
            }
        }
        Probe.due("constants", got, new TreeSet<>(List.of(CONSTANTS)));
    }

    private static void constructors() {
        Constructor<?>[] made = ModalPad.class.getDeclaredConstructors();
        Probe.due("constructors", made.length, 1);
        Probe.due("the constructor", Modifier.toString(made[0].getModifiers()) + made[0].getParameterCount()
            + made[0].getExceptionTypes().length, "public00");
    }

    private static void classes() {
        Probe.due("the class", Modifier.toString(ModalPad.class.getModifiers()), "public final");
        Probe.due("what it extends", ModalPad.class.getSuperclass(), Object.class);
        Probe.due("what it implements", ModalPad.class.getInterfaces().length, 0);
        TreeSet<String> faces = new TreeSet<>();
        for (Method method : ModalPad.class.getDeclaredMethods()) {
            if (Modifier.isPublic(method.getModifiers())) {
                faces.add(method.getName());
            }
        }
        privateNames(ModalPad.class, faces);
        for (Class<?> inside : ModalPad.class.getDeclaredClasses()) {
            int is = inside.getModifiers();
            Probe.due(inside.getSimpleName() + " is static, and not public", Modifier.isStatic(is)
                && !Modifier.isPublic(is) && !Modifier.isProtected(is), true);
            privateNames(inside, faces);
        }
    }

    /** No private method bears the name of a public one. */
    private static void privateNames(Class<?> of, TreeSet<String> faces) {
        for (Method method : of.getDeclaredMethods()) {
            if (Modifier.isPrivate(method.getModifiers()) && !method.isSynthetic()) {
                Probe.due(of.getSimpleName() + "." + method.getName() + " has a name of its own",
                    faces.contains(method.getName()), false);
            }
        }
    }
}
