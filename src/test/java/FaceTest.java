import java.lang.reflect.Constructor;
import java.lang.reflect.Field;
import java.lang.reflect.Method;
import java.lang.reflect.Modifier;
import java.util.Set;
import java.util.TreeSet;

/** The public face is the document's, and nothing else can be seen from outside. */
public final class FaceTest {
    private static final Set<String> METHODS = Set.of(
        "boolean feed(int)", "int write(int, int)", "int read(int, int)", "int got(int)", "int split(int)",
        "int show(int, int)", "boolean graft(int, int, int)", "boolean poke(int, int, int, int)",
        "boolean spoil(int, int, int, int)", "int exchange(int, int)", "int statement(int, int, int)",
        "int seen(int, int)", "int digest(int, int)", "boolean plain()", "int count(int)");

    public static void main(String[] args) {
        Expect.due("public final class", ForkWatch.class.getModifiers(), Modifier.PUBLIC | Modifier.FINAL);
        Expect.due("BAD", ForkWatch.BAD, -1);
        Expect.due("NONE", ForkWatch.NONE, -9);
        constructors();
        fields();
        methods();
        for (Class<?> inside : ForkWatch.class.getDeclaredClasses()) {
            Expect.due(inside + " is static", Modifier.isStatic(inside.getModifiers()), true);
            Expect.due(inside + " is not public", Modifier.isPublic(inside.getModifiers()), false);
        }
        Expect.end();
    }

    private static void constructors() {
        Constructor<?>[] all = ForkWatch.class.getDeclaredConstructors();
        Expect.due("constructors", all.length, 1);
        Expect.due("the constructor's parameters", all[0].getParameterCount(), 0);
        Expect.due("the constructor is public", Modifier.isPublic(all[0].getModifiers()), true);
    }

    private static void fields() {
        Set<String> visible = new TreeSet<>();
        for (Field field : ForkWatch.class.getDeclaredFields()) {
            if (!Modifier.isPrivate(field.getModifiers())) {
                visible.add(Modifier.toString(field.getModifiers()) + " " + field.getType() + " " + field.getName());
            }
        }
        Expect.due("visible fields " + visible,
            visible.equals(Set.of("public static final int BAD", "public static final int NONE")), true);
    }

    private static void methods() {
        Set<String> visible = new TreeSet<>();
        Set<String> hidden = new TreeSet<>();
        for (Method method : ForkWatch.class.getDeclaredMethods()) {
            String parameters = java.util.Arrays.toString(method.getParameterTypes()).replace('[', '(').replace(']', ')');
            if (method.isSynthetic()) {
                continue;
            }
            if (Modifier.isPrivate(method.getModifiers())) {
                hidden.add(method.getName());
            } else {
                visible.add(method.getReturnType() + " " + method.getName() + parameters);
                Expect.due(method + " is public and not static", method.getModifiers(), Modifier.PUBLIC);
            }
        }
        Expect.due("visible methods " + visible, visible.equals(METHODS), true);
        for (String signature : METHODS) {
            String name = signature.substring(signature.indexOf(' ') + 1, signature.indexOf('('));
            Expect.due("a private method is called " + name, hidden.contains(name), false);
        }
    }
}
