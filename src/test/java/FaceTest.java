import java.lang.reflect.Constructor;
import java.lang.reflect.Field;
import java.lang.reflect.Method;
import java.lang.reflect.Modifier;
import java.util.ArrayList;
import java.util.Arrays;
import java.util.List;

/** The class shows the document's face and nothing else. */
public final class FaceTest {
    private static final String[] METHODS = {
        "add(long, int)", "at(int, int)", "cut(int, int)", "end()", "listed(int)", "lose(int)", "octet(int, int)",
        "open(int)", "poke(int, int, int)", "protect(int, int)", "row(int, int)", "start()", "sync()", "told(int)",
        "whole(int)"};

    private static int wrong = 0;

    private static void due(String what, String got, String want) {
        if (!got.equals(want)) {
            wrong++;
            System.out.println(what + " is " + got + ", due is " + want);
        }
    }

    private static String namesOfMethods() {
        List<String> names = new ArrayList<>();
        for (Method m : PackDisk.class.getDeclaredMethods()) {
            if (!Modifier.isPrivate(m.getModifiers()) && !m.isSynthetic()) {
                due("what " + m.getName() + " answers", m.getReturnType().getName(), "int");
                due("the face of " + m.getName(), Modifier.toString(m.getModifiers()), "public");
                String types = Arrays.toString(m.getParameterTypes());
                names.add(m.getName() + "(" + types.substring(1, types.length() - 1) + ")");
            }
        }
        names.sort(null);
        return names.toString();
    }

    private static String namesOfFields() throws IllegalAccessException {
        List<String> names = new ArrayList<>();
        for (Field f : PackDisk.class.getDeclaredFields()) {
            if (!Modifier.isPrivate(f.getModifiers()) && !f.isSynthetic()) {
                names.add(Modifier.toString(f.getModifiers()) + " " + f.getName() + " " + f.getInt(null));
            }
        }
        names.sort(null);
        return names.toString();
    }

    public static void main(String[] args) throws ReflectiveOperationException {
        due("the class", Modifier.toString(PackDisk.class.getModifiers()), "public final");
        due("the methods", namesOfMethods(), Arrays.asList(METHODS).toString());
        due("the constants", namesOfFields(), "[public static final BAD -2, public static final FULL -4, "
            + "public static final MISSING -5, public static final NO -3, public static final NONE -1]");
        Constructor<?>[] made = PackDisk.class.getDeclaredConstructors();
        due("the constructors", Arrays.toString(made), "[public PackDisk(int)]");
        due("what at may throw", Arrays.toString(PackDisk.class.getMethod("at", int.class, int.class)
            .getExceptionTypes()), "[class java.lang.ArrayIndexOutOfBoundsException]");
        System.out.println(wrong == 0 ? "the face is as due" : wrong + " things of the face are not as due");
        if (wrong != 0) {
            System.exit(1);
        }
    }
}
