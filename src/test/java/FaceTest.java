import java.lang.reflect.Constructor;
import java.lang.reflect.Field;
import java.lang.reflect.Method;
import java.lang.reflect.Modifier;
import java.util.Set;
import java.util.TreeSet;

/** The face is the document's and nothing more. */
public final class FaceTest {
    private static final Due due = new Due();

    private static final String[] FACE = {
        "int feed 1", "int site 0", "int yard 3", "int at 2", "int earth 1", "int told 1", "int man 3", "int of 2",
        "int round 2", "int rest 2", "int run 4", "int by 3", "int full 2", "int boards 5", "int turns 4",
        "int worth 2", "int pave 2", "long odds 4", "int book 1", "int looked 2", "int act 3", "int trace 1",
        "int as 2", "int image 0", "int undo 0", "int count 1"};

    public static void main(String[] args) {
        methods();
        fieldsAndConstructor();
        nestedClasses();
        due.end();
    }

    private static void methods() {
        Set<String> names = new TreeSet<>();
        Set<String> found = new TreeSet<>();
        for (Method m : BarrowPlank.class.getDeclaredMethods()) {
            if (Modifier.isPublic(m.getModifiers())) {
                found.add(m.getReturnType() + " " + m.getName() + " " + m.getParameterCount());
                names.add(m.getName());
                for (Class<?> p : m.getParameterTypes()) {
                    due.holds(m + " takes ints alone", p == int.class);
                }
                due.holds(m + " is no static one", !Modifier.isStatic(m.getModifiers()));
            }
        }
        due.holds("the methods are the document's", found.equals(new TreeSet<>(Set.of(FACE))));
        for (Method m : BarrowPlank.class.getDeclaredMethods()) {
            int kind = m.getModifiers();
            due.holds(m + " is public or private", Modifier.isPublic(kind) || Modifier.isPrivate(kind));
            due.holds(m + " bears no public name", Modifier.isPublic(kind) || !names.contains(m.getName()));
            due.holds(m + " takes seven at most", m.getParameterCount() <= 7);
        }
        for (Class<?> c : BarrowPlank.class.getDeclaredClasses()) {
            for (Method m : c.getDeclaredMethods()) {
                due.holds(m + " bears no public name", !names.contains(m.getName()));
            }
        }
    }

    private static void fieldsAndConstructor() {
        Set<String> shown = new TreeSet<>();
        for (Field f : BarrowPlank.class.getDeclaredFields()) {
            if (!Modifier.isPrivate(f.getModifiers())) {
                shown.add(f.getName());
            }
            due.holds(f + " is final if static", !Modifier.isStatic(f.getModifiers())
                || Modifier.isFinal(f.getModifiers()));
        }
        due.holds("the constants are the document's", shown.equals(Set.of("NONE", "BAD", "STATE", "FULL", "NO")));
        constants();
        Constructor<?>[] made = BarrowPlank.class.getDeclaredConstructors();
        due.is("constructors", made.length, 1);
        due.holds("it is public", Modifier.isPublic(made[0].getModifiers()));
        due.is("its parameters", made[0].getParameterCount(), 0);
        due.holds("the class is final", Modifier.isFinal(BarrowPlank.class.getModifiers()));
    }

    private static void constants() {
        String[] names = {"NONE", "BAD", "STATE", "FULL", "NO"};
        long[] values = {-1, -2, -3, -4, Long.MIN_VALUE};
        for (int k = 0; k < names.length; k++) {
            try {
                Field f = BarrowPlank.class.getField(names[k]);
                due.holds(names[k] + " is of its type", f.getType() == (k < 4 ? int.class : long.class));
                due.is(names[k], f.getLong(null), values[k]);
            } catch (ReflectiveOperationException none) {
                due.holds(names[k] + " can be seen", false);
            }
        }
    }

    private static void nestedClasses() {
        due.holds("twelve classes at most", BarrowPlank.class.getDeclaredClasses().length < 12);
        for (Class<?> c : BarrowPlank.class.getDeclaredClasses()) {
            due.holds(c + " is static", Modifier.isStatic(c.getModifiers()));
            due.holds(c + " is not public", !Modifier.isPublic(c.getModifiers()));
            due.holds(c + " has twenty fields at most", ownFields(c) <= 20);
        }
    }

    private static int ownFields(Class<?> c) {
        int many = 0;
        for (Field f : c.getDeclaredFields()) {
            many += Modifier.isStatic(f.getModifiers()) ? 0 : 1;
        }
        return many;
    }
}
