import java.lang.reflect.Constructor;
import java.lang.reflect.Field;
import java.lang.reflect.Method;
import java.lang.reflect.Modifier;
import java.util.Arrays;
import java.util.Set;
import java.util.TreeSet;
import java.util.stream.Collectors;

/** Holds the visible members of the class against the document's face and the first rules of LANGUAGE.md. */
public final class SweepEqualFace {
    private static final String[] FACE = {
        "int NONE = -1",
        "SweepEqual()",
        "int input() throws IllegalStateException",
        "int latch(int, int) throws IllegalStateException, IllegalArgumentException",
        "int and(int, int, int) throws IndexOutOfBoundsException, IllegalStateException, IllegalArgumentException",
        "int output(int, int) throws IndexOutOfBoundsException, IllegalStateException, IllegalArgumentException",
        "int next(int, int, int) throws IndexOutOfBoundsException, IllegalArgumentException",
        "boolean same(int, int) throws IndexOutOfBoundsException",
        "int first(int) throws IndexOutOfBoundsException",
        "int classes()",
        "int merged(int) throws IndexOutOfBoundsException",
        "int hangs(int) throws IndexOutOfBoundsException",
        "int ones(int) throws IndexOutOfBoundsException",
        "int value(int, int) throws IndexOutOfBoundsException",
        "int differs(int) throws IndexOutOfBoundsException",
        "int witness(int) throws IndexOutOfBoundsException",
        "void reset()",
        "int step(int)",
        "int out(int, int) throws IndexOutOfBoundsException",
        "int state(int, int) throws IndexOutOfBoundsException",
        "int apart()",
        "int count(int) throws IndexOutOfBoundsException",
        "void clear()"
    };

    public static void main(String[] args) throws IllegalAccessException {
        Set<String> want = new TreeSet<>(Arrays.asList(FACE));
        Set<String> got = new TreeSet<>();
        Class<?> type = SweepEqual.class;
        for (Field field : type.getDeclaredFields()) {
            if (!Modifier.isPrivate(field.getModifiers())) {
                got.add(field.getType().getSimpleName() + " " + field.getName() + " = " + field.get(null));
            }
        }
        for (Constructor<?> made : type.getDeclaredConstructors()) {
            got.add("SweepEqual(" + names(made.getParameterTypes()) + ")" + thrown(made.getExceptionTypes()));
        }
        boolean twice = false;
        Set<String> publicNames = new TreeSet<>();
        for (Method method : type.getMethods()) {
            if (method.getDeclaringClass() == type) {
                publicNames.add(method.getName());
            }
        }
        for (Method method : type.getDeclaredMethods()) {
            if (!Modifier.isPrivate(method.getModifiers())) {
                got.add(method.getReturnType().getSimpleName() + " " + method.getName()
                        + "(" + names(method.getParameterTypes()) + ")" + thrown(method.getExceptionTypes()));
            } else if (publicNames.contains(method.getName())) {
                twice = true;
                System.out.println("a private method bears the name " + method.getName());
            }
        }
        boolean sealed = Modifier.isFinal(type.getModifiers()) && Modifier.isPublic(type.getModifiers());
        if (!want.equals(got) || twice || !sealed) {
            System.out.println("the face is " + got + ", due is " + want + "; public and final: " + sealed);
            System.exit(1);
        }
        System.out.println("the face is as due");
    }

    private static String names(Class<?>[] types) {
        return Arrays.stream(types).map(Class::getSimpleName).collect(Collectors.joining(", "));
    }

    private static String thrown(Class<?>[] types) {
        return types.length == 0 ? "" : " throws " + names(types);
    }
}
