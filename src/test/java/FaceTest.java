import java.lang.reflect.Constructor;
import java.lang.reflect.Field;
import java.lang.reflect.Method;
import java.lang.reflect.Modifier;
import java.util.Arrays;
import java.util.List;
import java.util.TreeSet;

/** The face of the class is the document's, and nothing else of it can be reached. */
public final class FaceTest {
    private static final String IAE = " IllegalArgumentException";
    private static final String IOOBE = " IndexOutOfBoundsException";
    private static final String ISE = " IllegalStateException";
    private static final List<String> FACE = List.of(
        "append(int)" + IAE + ISE, "clearText()", "errorPosition()", "load()" + ISE, "about(int)" + IAE,
        "cell(int, int)" + IAE + IOOBE, "worker(int, int)" + IAE + IOOBE, "work(int, int, int)" + IAE + IOOBE,
        "entry(int, int)" + IAE + IOOBE, "begin(int)" + ISE + IOOBE, "write(int, int, int)" + IAE + ISE + IOOBE,
        "point(int)" + ISE + IOOBE, "back(int, int)" + ISE + IOOBE, "regret(int, int, int)" + IAE + ISE + IOOBE,
        "done(int)" + ISE + IOOBE, "fail(int)" + ISE + IOOBE, "setMercy(int)" + IAE, "undo()" + ISE,
        "whyNot(int, int)" + IOOBE, "failed(int, int, int)" + IAE + IOOBE, "changes(int)" + IOOBE,
        "lost(int, int)" + IOOBE, "mercyLeft(int)" + IOOBE, "runScript(int, long)" + IAE, "simulate(long, int)" + IAE,
        "save(int)" + IOOBE, "restore(int)" + ISE + IOOBE);

    private static int wrong = 0;

    public static void main(String[] args) throws Exception {
        Class<?> face = ForgivenWork.class;
        check(Modifier.isPublic(face.getModifiers()) && Modifier.isFinal(face.getModifiers()), "public and final");
        check(face.getSuperclass() == Object.class && face.getInterfaces().length == 0, "no class above it");
        methods(face);
        fields(face);
        constructors(face);
        for (Class<?> inner : face.getDeclaredClasses()) {
            int modifiers = inner.getModifiers();
            check(Modifier.isStatic(modifiers) && !Modifier.isPublic(modifiers) && !Modifier.isProtected(modifiers),
                inner + " is static and private or package-visible");
            for (Field field : inner.getDeclaredFields()) {
                constant(field);
            }
        }
        System.out.println(wrong == 0 ? "FaceTest: the face is the document's" : "FaceTest: " + wrong + " wrong");
        if (wrong != 0) {
            System.exit(1);
        }
    }

    private static void check(boolean holds, String what) {
        if (!holds) {
            wrong++;
            System.out.println("not so: " + what);
        }
    }

    private static void methods(Class<?> face) {
        TreeSet<String> seen = new TreeSet<>();
        TreeSet<String> names = new TreeSet<>();
        for (Method method : face.getDeclaredMethods()) {
            int modifiers = method.getModifiers();
            if (Modifier.isPrivate(modifiers) || method.isSynthetic()) {
                continue;
            }
            check(modifiers == Modifier.PUBLIC, method + " is public and nothing more");
            check(method.getReturnType() == int.class, method + " answers an int");
            String[] thrown = Arrays.stream(method.getExceptionTypes()).map(Class::getName).sorted().toArray(String[]::new);
            String arguments = Arrays.toString(Arrays.stream(method.getParameterTypes()).map(Class::getName).toArray());
            seen.add(method.getName() + "(" + arguments.substring(1, arguments.length() - 1) + ")"
                + (thrown.length == 0 ? "" : " " + String.join(" ", thrown).replace("java.lang.", "")));
            names.add(method.getName());
        }
        check(seen.equals(new TreeSet<>(FACE)), "the methods are " + new TreeSet<>(FACE) + ", but they are " + seen);
        for (Method method : face.getDeclaredMethods()) {
            check(!Modifier.isPrivate(method.getModifiers()) || !names.contains(method.getName()),
                method + " does not bear the name of a public one");
        }
    }

    private static void fields(Class<?> face) throws Exception {
        for (Field field : face.getDeclaredFields()) {
            if (field.getName().equals("NONE")) {
                int constant = Modifier.PUBLIC | Modifier.STATIC | Modifier.FINAL;
                check(field.getModifiers() == constant && field.getInt(null) == -1, "NONE is a public constant, -1");
            } else {
                check(Modifier.isPrivate(field.getModifiers()), field + " is private");
                constant(field);
            }
        }
    }

    private static void constant(Field field) {
        check(!Modifier.isStatic(field.getModifiers()) || Modifier.isFinal(field.getModifiers()), field + " is final");
    }

    private static void constructors(Class<?> face) {
        Constructor<?>[] all = face.getDeclaredConstructors();
        check(all.length == 1 && all[0].getModifiers() == Modifier.PUBLIC && all[0].getParameterCount() == 0
            && all[0].getExceptionTypes().length == 0, "one public constructor without arguments");
    }
}
