import java.lang.reflect.Constructor;
import java.lang.reflect.Field;
import java.lang.reflect.Member;
import java.lang.reflect.Method;
import java.lang.reflect.Modifier;
import java.util.Arrays;
import java.util.Set;
import java.util.TreeSet;

/** The public face: its constants, constructor and methods, and nothing else that can be seen. */
public final class FaceTest {
    private static final String[] METHODS = {
        "int set(int, boolean, int, long, int)", "int add(int, int, int)", "int subtract(int, int, int)",
        "int multiply(int, int, long, int)", "int divide(int, int, long, int)", "int negate(int, int)",
        "int round(int, int, int, boolean)", "boolean ratio(int, int)", "int allocate(int, int, int)",
        "int compare(int, int)", "int sign(int)", "int kind(int)", "long digits(int, int)",
        "boolean discard(int)", "int format(int, int)", "int type(int)", "void wipe()", "int letter(int)",
        "int parse(int, boolean, int)"
    };

    public static void main(String[] args) throws Exception {
        Class<?> type = TwofoldAmounts.class;
        Checks.due("public final", Modifier.isPublic(type.getModifiers()) && Modifier.isFinal(type.getModifiers()), true);
        methods(type);
        constants(type);
        Constructor<?>[] makers = type.getDeclaredConstructors();
        Checks.due("constructors", makers.length, 1);
        Checks.due("constructor", Arrays.toString(makers[0].getParameterTypes()), "[int, int, int]");
        Checks.due("constructor is public", Modifier.isPublic(makers[0].getModifiers()), true);
        for (Class<?> inside : type.getDeclaredClasses()) {
            Checks.due(inside.getName() + " is static", Modifier.isStatic(inside.getModifiers()), true);
            Checks.due(inside.getName() + " is public", Modifier.isPublic(inside.getModifiers()), false);
        }
        Checks.done();
    }

    private static boolean hidden(Member member) {
        return Modifier.isPrivate(member.getModifiers()) || member.isSynthetic();
    }

    private static void methods(Class<?> type) {
        Set<String> seen = new TreeSet<>();
        Set<String> names = new TreeSet<>();
        for (Method method : type.getDeclaredMethods()) {
            if (!hidden(method)) {
                String list = Arrays.toString(method.getParameterTypes());
                seen.add(method.getReturnType() + " " + method.getName() + "(" + list.substring(1, list.length() - 1) + ")");
                names.add(method.getName());
                Checks.due(method.getName() + " is public", Modifier.isPublic(method.getModifiers()), true);
            }
        }
        Checks.due("methods", seen.toString(), new TreeSet<>(Arrays.asList(METHODS)).toString());
        for (Method method : type.getDeclaredMethods()) {
            Checks.due("private " + method.getName(), hidden(method) && names.contains(method.getName()), false);
        }
    }

    private static void constants(Class<?> type) throws Exception {
        String[] names = {"NO_AMOUNT", "MISMATCH", "RANGE", "ZERO", "BAD", "INEXACT"};
        for (int i = 0; i < names.length; i++) {
            Checks.due(names[i], type.getField(names[i]).getInt(null), -11 - i);
        }
        int seen = 0;
        for (Field field : type.getDeclaredFields()) {
            if (!hidden(field)) {
                seen++;
                int modifiers = field.getModifiers();
                Checks.due(field.getName(), Modifier.isPublic(modifiers) && Modifier.isStatic(modifiers) && Modifier.isFinal(modifiers), true);
            }
        }
        Checks.due("public fields", seen, names.length);
    }
}
