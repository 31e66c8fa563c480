import java.lang.reflect.Constructor;
import java.lang.reflect.Field;
import java.lang.reflect.Method;
import java.lang.reflect.Modifier;
import java.util.Arrays;
import java.util.Set;
import java.util.TreeSet;

/** The public face of the document, and rules 1, 5 and 11 of LANGUAGE.md as far as the class file shows them. */
final class FaceTest {
    private static final Set<String> DUE = Set.of(
            "void table(int, int, int, int, boolean) throws IllegalArgumentException",
            "void set(int, int, int, double) throws IllegalArgumentException",
            "int node(int, int, int, int, int, int, int) throws IllegalArgumentException, IllegalStateException",
            "void undo() throws NoSuchElementException",
            "int prepare() throws NoSuchElementException, UnsupportedOperationException",
            "int run(int) throws IllegalArgumentException, IllegalStateException, ArithmeticException, "
                    + "IndexOutOfBoundsException",
            "double get(int, int, int) throws IllegalArgumentException, NoSuchElementException",
            "int slot(int, int) throws IllegalArgumentException, NoSuchElementException",
            "int count(int)");

    private static final Set<Class<?>> CONSTANTS = Set.of(int.class, long.class, boolean.class, char.class,
            String.class, int[].class, long[].class, char[].class, byte[].class);

    public static void main(String[] args) {
        Class<?> face = GraphRunner.class;
        right("public and final", Modifier.isPublic(face.getModifiers()) && Modifier.isFinal(face.getModifiers()));
        Constructor<?>[] constructors = face.getDeclaredConstructors();
        right("one constructor", constructors.length == 1 && constructors[0].getParameterCount() == 0
                && Modifier.isPublic(constructors[0].getModifiers()));
        methods(face);
        fields(face);
        for (Class<?> inside : face.getDeclaredClasses()) {
            int modifiers = inside.getModifiers();
            right(inside + " is neither public nor protected",
                    !Modifier.isPublic(modifiers) && !Modifier.isProtected(modifiers));
            fields(inside);
        }
        right("at most twelve classes", face.getDeclaredClasses().length <= 12);
        Expect.end();
    }

    private static void right(String what, boolean right) {
        Expect.look(what, right, "not so", "so");
    }

    private static void methods(Class<?> face) {
        Set<String> found = new TreeSet<>();
        Set<String> publicNames = new TreeSet<>();
        for (Method method : face.getDeclaredMethods()) {
            if (!Modifier.isPrivate(method.getModifiers())) {
                found.add(written(method));
                publicNames.add(method.getName());
            }
        }
        right("methods " + found, found.equals(DUE));
        for (Method method : face.getDeclaredMethods()) {
            right(method.getName() + " bears its own name",
                    !Modifier.isPrivate(method.getModifiers()) || !publicNames.contains(method.getName()));
            right(method.getName() + " takes at most seven", method.getParameterCount() <= 7);
        }
    }

    private static String written(Method method) {
        String thrown = names(method.getExceptionTypes());
        return method.getReturnType().getSimpleName() + " " + method.getName()
                + "(" + names(method.getParameterTypes()) + ")" + (thrown.isEmpty() ? "" : " throws " + thrown);
    }

    private static String names(Class<?>[] types) {
        return String.join(", ", Arrays.stream(types).map(Class::getSimpleName).toList());
    }

    /** The document has no constants, so that a field of the face is private; those of a class inside needn't be. */
    private static void fields(Class<?> owner) {
        int ofObjects = 0;
        for (Field field : owner.getDeclaredFields()) {
            right(field + " is private", owner != GraphRunner.class || Modifier.isPrivate(field.getModifiers()));
            if (Modifier.isStatic(field.getModifiers())) {
                right(field + " is final", Modifier.isFinal(field.getModifiers()));
                right(field + " is a constant", CONSTANTS.contains(field.getType()) || ofAnEnum(field.getType()));
            } else {
                ofObjects++;
            }
        }
        right(owner + " has at most twenty fields", ofObjects <= 20);
    }

    private static boolean ofAnEnum(Class<?> type) {
        return type.isEnum() || (type.isArray() && type.getComponentType().isEnum());
    }
}
