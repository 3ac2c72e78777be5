import java.lang.reflect.Constructor;
import java.lang.reflect.Field;
import java.lang.reflect.Method;
import java.lang.reflect.Modifier;
import java.util.Arrays;
import java.util.Set;
import java.util.TreeSet;

/** The public face is the document's, and nothing else can be seen from outside. */
public final class FaceTest {
    private static final String[] FACE = {
        "int add(int, int, int)", "int clear()", "int input(int)", "boolean request()", "boolean pass(int)",
        "int run(int)", "int log()", "int at(int)", "int entries()", "int seal()", "boolean change(int, int)",
        "int tell(int, int)", "int state(int, int)", "int cell(int, int)", "int sealed(int, int, int)"
    };

    public static void main(String[] args) {
        Class<?> c = RetoldRun.class;
        int wanted = Modifier.PUBLIC | Modifier.FINAL;
        Checks.due("the class is public and final", c.getModifiers() & wanted, wanted);
        methods(c);
        constructors(c);
        nested(c);
        Checks.finish(FaceTest.class);
    }

    private static String textOf(Method m) {
        String types = Arrays.toString(m.getParameterTypes());
        return m.getReturnType() + " " + m.getName() + "(" + types.substring(1, types.length() - 1) + ")";
    }

    private static void methods(Class<?> c) {
        Set<String> visible = new TreeSet<>();
        Set<String> names = new TreeSet<>();
        for (Method m : c.getDeclaredMethods()) {
            if (!Modifier.isPrivate(m.getModifiers())) {
                visible.add(textOf(m));
                names.add(m.getName());
                Checks.due(m + " is public, of an object and throws nothing",
                    Modifier.isPublic(m.getModifiers()) && !Modifier.isStatic(m.getModifiers())
                        && m.getExceptionTypes().length == 0, true);
            }
        }
        Checks.due("methods that can be seen " + visible, visible.equals(new TreeSet<>(Arrays.asList(FACE))), true);
        for (Method m : c.getDeclaredMethods()) {
            Checks.due("name of private " + m,
                Modifier.isPrivate(m.getModifiers()) && names.contains(m.getName()), false);
        }
        for (Field f : c.getDeclaredFields()) {
            Checks.due(f + " is private", Modifier.isPrivate(f.getModifiers()), true);
            dueNoStaticThatChanges(f);
        }
    }

    private static void constructors(Class<?> c) {
        Constructor<?>[] all = c.getDeclaredConstructors();
        Checks.due("constructors", all.length, 1);
        Checks.due("the constructor is public", Modifier.isPublic(all[0].getModifiers()), true);
        Checks.due("the constructor takes the seed",
            Arrays.equals(all[0].getParameterTypes(), new Class<?>[] {int.class}), true);
    }

    private static void nested(Class<?> c) {
        Class<?>[] inside = c.getDeclaredClasses();
        Checks.due("classes inside are at most twelve", inside.length <= 12, true);
        for (Class<?> n : inside) {
            int m = n.getModifiers();
            Checks.due(n + " is static and not public or protected",
                Modifier.isStatic(m) && !Modifier.isPublic(m) && !Modifier.isProtected(m), true);
            for (Field f : n.getDeclaredFields()) {
                dueNoStaticThatChanges(f);
            }
        }
    }

    private static void dueNoStaticThatChanges(Field f) {
        Checks.due(f + " is no static that changes",
            Modifier.isStatic(f.getModifiers()) && !Modifier.isFinal(f.getModifiers()), false);
    }
}
