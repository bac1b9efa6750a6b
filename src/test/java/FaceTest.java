import java.lang.reflect.Constructor;
import java.lang.reflect.Field;
import java.lang.reflect.Method;
import java.lang.reflect.Modifier;
import java.util.TreeSet;

/** The public face is the document's, to the word. */
public final class FaceTest {
    private static int wrong = 0;

    private static final String[] FACE = {
        "int corner(int, int)", "int code(int)", "int move(int)", "int becomes(int)", "int keep()",
        "int feed(int)", "int read()", "int told(int)", "int carried(int, int)", "int imaged(int)",
        "int form(int)", "int classes(int)", "int weighs(int, int, int, int)", "int face(int)",
        "int edge(int, int)", "int points(int)", "int holds(int, int, int, int)", "int floats(int)",
        "long spread()", "int see(int, int)", "int fits()", "long odds(int, int)", "long mean(int)",
        "int event(int, int)", "int after(int)", "int book(int, int)", "int looked()",
        "int judge(int, int)", "int image()", "int undo()", "int count(int)", "int tape(int, int, int)",
        "int item(int, int, long)", "long peek(int, int)", "int shift(int, int, int, int, int)",
    };

    private static void due(String what, Object got, Object want) {
        if (!got.equals(want)) {
            wrong++;
            System.out.println(what + ": " + got + ", due is " + want);
        }
    }

    private static String told(Method method) {
        StringBuilder words = new StringBuilder();
        for (Class<?> type : method.getParameterTypes()) {
            words.append(words.length() == 0 ? "" : ", ").append(type.getName());
        }
        return method.getReturnType().getName() + " " + method.getName() + "(" + words + ")";
    }

    public static void main(String[] args) {
        due("CubeBodies is public and final", CubeBodies.class.getModifiers(), Modifier.PUBLIC | Modifier.FINAL);
        TreeSet<String> want = new TreeSet<>(java.util.List.of(FACE));
        TreeSet<String> names = new TreeSet<>();
        TreeSet<String> got = new TreeSet<>();
        for (Method method : CubeBodies.class.getDeclaredMethods()) {
            if (!Modifier.isPrivate(method.getModifiers())) {
                due(told(method) + " has modifiers", method.getModifiers(), Modifier.PUBLIC);
                got.add(told(method));
                names.add(method.getName());
            }
        }
        due("the methods", got, want);
        for (Method method : CubeBodies.class.getDeclaredMethods()) {
            if (Modifier.isPrivate(method.getModifiers())) {
                due("private " + told(method) + " bears a public name", names.contains(method.getName()), false);
            }
        }
        Constructor<?>[] constructors = CubeBodies.class.getDeclaredConstructors();
        due("how many constructors", constructors.length, 1);
        due("the constructor's numbers", constructors[0].getParameterCount(), 0);
        due("the constructor is public", constructors[0].getModifiers(), Modifier.PUBLIC);
        TreeSet<String> constants = new TreeSet<>();
        for (Field field : CubeBodies.class.getDeclaredFields()) {
            if (!Modifier.isPrivate(field.getModifiers())) {
                constants.add(Modifier.toString(field.getModifiers()) + " " + field.getType() + " " + field.getName());
            }
            if (Modifier.isStatic(field.getModifiers())) {
                due(field.getName() + " is final", Modifier.isFinal(field.getModifiers()), true);
            }
        }
        due("the constants", constants, new TreeSet<>(java.util.List.of(
                "public static final int NONE", "public static final int BAD", "public static final int STATE",
                "public static final int FULL", "public static final long NO")));
        due("NONE", CubeBodies.NONE, -1);
        due("BAD", CubeBodies.BAD, -2);
        due("STATE", CubeBodies.STATE, -3);
        due("FULL", CubeBodies.FULL, -4);
        due("NO", CubeBodies.NO, Long.MIN_VALUE);
        for (Class<?> inside : CubeBodies.class.getDeclaredClasses()) {
            due(inside.getName() + " is static", Modifier.isStatic(inside.getModifiers()), true);
            due(inside.getName() + " is not public or protected",
                    inside.getModifiers() & (Modifier.PUBLIC | Modifier.PROTECTED), 0);
        }
        System.out.println(wrong == 0 ? "the face is as due" : wrong + " parts of the face are not as due");
        if (wrong != 0) {
            System.exit(1);
        }
    }
}
