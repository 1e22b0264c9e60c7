import java.lang.reflect.Constructor;
import java.lang.reflect.Field;
import java.lang.reflect.Member;
import java.lang.reflect.Method;
import java.lang.reflect.Modifier;
import java.util.Arrays;
import java.util.Set;
import java.util.TreeSet;
import java.util.stream.Collectors;

/** Holds the visible members of the class against the document's face and the first rules of LANGUAGE.md. */
public final class SweepEqualFace {
    private static final String[] FACE = {
        "public static final int NONE = -1",
        "public SweepEqual()",
        "public int input() throws IllegalStateException",
        "public int latch(int, int) throws IllegalStateException, IllegalArgumentException",
        "public int and(int, int, int)"
                + " throws IndexOutOfBoundsException, IllegalStateException, IllegalArgumentException",
        "public int output(int, int) throws IndexOutOfBoundsException, IllegalStateException, IllegalArgumentException",
        "public int next(int, int, int) throws IndexOutOfBoundsException, IllegalArgumentException",
        "public boolean same(int, int) throws IndexOutOfBoundsException",
        "public int first(int) throws IndexOutOfBoundsException",
        "public int classes()",
        "public int merged(int) throws IndexOutOfBoundsException",
        "public int hangs(int) throws IndexOutOfBoundsException",
        "public int ones(int) throws IndexOutOfBoundsException",
        "public int value(int, int) throws IndexOutOfBoundsException",
        "public int differs(int) throws IndexOutOfBoundsException",
        "public int witness(int) throws IndexOutOfBoundsException",
        "public void reset()",
        "public int step(int)",
        "public int out(int, int) throws IndexOutOfBoundsException",
        "public int state(int, int) throws IndexOutOfBoundsException",
        "public int apart()",
        "public int count(int) throws IndexOutOfBoundsException",
        "public void clear()"
    };

    public static void main(String[] args) throws IllegalAccessException {
        Set<String> want = new TreeSet<>(Arrays.asList(FACE));
        Set<String> got = new TreeSet<>();
        Class<?> type = SweepEqual.class;
        for (Field field : type.getDeclaredFields()) {
            if (!Modifier.isPrivate(field.getModifiers())) {
                got.add(seen(field) + field.getType().getSimpleName() + " "
                        + field.getName() + " = " + field.get(null));
            }
        }
        for (Constructor<?> made : type.getDeclaredConstructors()) {
            got.add(seen(made) + "SweepEqual(" + names(made.getParameterTypes()) + ")"
                    + thrown(made.getExceptionTypes()));
        }
        boolean twice = false;
        Set<String> publicNames = new TreeSet<>();
        for (Method method : type.getMethods()) {
            if (method.getDeclaringClass() == type) {
                publicNames.add(method.getName());
            }
        }
        for (Method method : type.getDeclaredMethods()) {
            if (!Modifier.isPrivate(method.getModifiers())) {
                got.add(seen(method) + method.getReturnType().getSimpleName() + " " + method.getName()
                        + "(" + names(method.getParameterTypes()) + ")" + thrown(method.getExceptionTypes()));
            } else if (publicNames.contains(method.getName())) {
                twice = true;
                System.out.println("a private method bears the name " + method.getName());
            }
        }
        boolean inside = true;
        for (Class<?> nested : type.getDeclaredClasses()) {
            int modifiers = nested.getModifiers();
            if (!Modifier.isStatic(modifiers) || Modifier.isPublic(modifiers) || Modifier.isProtected(modifiers)) {
                inside = false;
                System.out.println("not as rule 1 has it: " + Modifier.toString(modifiers) + " " + nested.getName());
            }
        }
        boolean sealed = Modifier.isFinal(type.getModifiers()) && Modifier.isPublic(type.getModifiers());
        if (!want.equals(got) || twice || !inside || !sealed) {
            System.out.println("the face is " + got + ", due is " + want + "; public and final: " + sealed);
            System.exit(1);
        }
        System.out.println("the face is as due");
    }

    private static String seen(Member member) {
        return Modifier.toString(member.getModifiers()) + " ";
    }

    private static String names(Class<?>[] types) {
        return Arrays.stream(types).map(Class::getSimpleName).collect(Collectors.joining(", "));
    }

    private static String thrown(Class<?>[] types) {
        return types.length == 0 ? "" : " throws " + names(types);
    }
}
