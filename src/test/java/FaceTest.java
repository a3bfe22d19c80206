import java.lang.reflect.Constructor;
import java.lang.reflect.Field;
import java.lang.reflect.Method;
import java.lang.reflect.Modifier;
import java.util.Arrays;
import java.util.List;
import java.util.TreeSet;

/** The public face of the document, and what LANGUAGE.md says of members and static fields. */
public final class FaceTest {
    private static final List<String> FACE = List.of(
        "int feed(int, long) IllegalArgumentException, IllegalStateException",
        "boolean number(int) IllegalArgumentException",
        "void set(int, long) IllegalArgumentException",
        "long word(int, int) IllegalArgumentException",
        "void reckon(int, int, int, int) IllegalArgumentException, ArithmeticException",
        "void power(int, int, long) IllegalArgumentException",
        "void unity(int, int) IllegalArgumentException",
        "int point(int) IllegalArgumentException",
        "void bytes(int, boolean) IllegalArgumentException",
        "long out(int) NoSuchElementException",
        "void join(int, int, int, int) IllegalArgumentException",
        "void times(int, int, int) IllegalArgumentException",
        "void combine(int, int, int, int) IllegalArgumentException",
        "boolean same(int, int) IllegalArgumentException",
        "void setup(int, int) IllegalArgumentException",
        "void commit(int, int, int) IllegalArgumentException, IllegalStateException",
        "void open(int, int, int, int) IllegalArgumentException",
        "boolean checks(int, int, int, int, int) IllegalArgumentException",
        "void transform(int, int, boolean) IllegalArgumentException",
        "void lagrange(int, int, int, int) IllegalArgumentException",
        "int look(int) IllegalArgumentException");

    public static void main(String[] args) {
        Class<?> face = KateDesk.class;
        Pair.due("the class's modifiers", Modifier.toString(face.getModifiers()), "public final");
        TreeSet<String> found = new TreeSet<>();
        TreeSet<String> names = new TreeSet<>();
        for (Method m : face.getDeclaredMethods()) {
            if (Modifier.isPublic(m.getModifiers())) {
                found.add(signature(m));
                names.add(m.getName());
            } else {
                Pair.due(m + " is private", "" + Modifier.isPrivate(m.getModifiers()), "true");
            }
        }
        Pair.due("the public methods", found.toString(), new TreeSet<>(FACE).toString());
        Constructor<?>[] made = face.getDeclaredConstructors();
        Pair.due("the constructors", Arrays.toString(made), "[public KateDesk()]");
        members(face, names);
        for (Class<?> inner : face.getDeclaredClasses()) {
            int modifiers = inner.getModifiers();
            boolean hidden = !Modifier.isPublic(modifiers) && !Modifier.isProtected(modifiers);
            Pair.due(inner + " is hidden and static", "" + (hidden && Modifier.isStatic(modifiers)), "true");
            members(inner, names);
        }
        Pair.due("no more than twelve classes", "" + (face.getDeclaredClasses().length < 12), "true");
        Pair.end();
    }

    private static void members(Class<?> owner, TreeSet<String> names) {
        int count = 0;
        for (Field f : owner.getDeclaredFields()) {
            boolean constant = Modifier.isStatic(f.getModifiers());
            count += constant ? 0 : 1;
            if (constant) {
                boolean plain = f.getType().isPrimitive() || f.getType() == String.class;
                Pair.due(f + " is a constant", "" + (plain && Modifier.isFinal(f.getModifiers())), "true");
            }
            if (owner == KateDesk.class) {
                Pair.due(f + " is private", "" + Modifier.isPrivate(f.getModifiers()), "true");
            }
        }
        Pair.due(owner + " has some twenty fields at the most", "" + (count <= 20), "true");
        for (Method m : owner.getDeclaredMethods()) {
            boolean free = Modifier.isPublic(m.getModifiers()) || !names.contains(m.getName());
            Pair.due(m + " bears no name of the face", "" + free, "true");
            Pair.due(m + " takes at most seven parameters", "" + (m.getParameterCount() <= 7), "true");
        }
    }

    private static String signature(Method m) {
        String thrown = names(m.getExceptionTypes());
        return m.getReturnType() + " " + m.getName() + "(" + names(m.getParameterTypes()) + ") " + thrown;
    }

    private static String names(Class<?>[] types) {
        return String.join(", ", Arrays.stream(types).map(Class::getSimpleName).toArray(String[]::new));
    }
}
