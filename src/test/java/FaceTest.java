import java.lang.reflect.Constructor;
import java.lang.reflect.Field;
import java.lang.reflect.Method;
import java.lang.reflect.Modifier;
import java.util.Set;
import java.util.TreeSet;

/** The class shows the document's face and no other member. */
public final class FaceTest {
    private static final Set<String> FACE = Set.of(
        "int put(int,int)", "int add(int,int)", "int delete(int)", "int read(int)", "int value()",
        "int checkpoint()", "int step()", "int grow()", "int compact()", "boolean fuse(int)",
        "int recover()", "int address(int)", "int entry(int,int)", "int bucket(int)", "int size(int)");
    private static final Set<String> CONSTANTS = Set.of("DOWN", "BAD", "FULL", "REFUSED");

    public static void main(String[] args) {
        Due due = new Due();
        Class<?> c = TailedStore.class;
        due.is("public final class", true, Modifier.isPublic(c.getModifiers()) && Modifier.isFinal(c.getModifiers()));
        checkMethods(due, c);
        checkFields(due, c);
        Constructor<?>[] made = c.getDeclaredConstructors();
        due.is("constructors", 1, made.length);
        due.is("public constructor(int, int)", true,
            Modifier.isPublic(made[0].getModifiers()) && signature("", made[0].getParameterTypes()).equals("(int,int)"));
        for (Class<?> inner : c.getDeclaredClasses()) {
            due.is("static and not public: " + inner.getName(), true,
                Modifier.isStatic(inner.getModifiers()) && !Modifier.isPublic(inner.getModifiers()));
        }
        due.finish();
    }

    private static void checkMethods(Due due, Class<?> c) {
        Set<String> seen = new TreeSet<>();
        Set<String> names = new TreeSet<>();
        for (Method m : c.getDeclaredMethods()) {
            if (!Modifier.isPrivate(m.getModifiers())) {
                seen.add(m.getReturnType().getName() + " " + signature(m.getName(), m.getParameterTypes()));
                names.add(m.getName());
            }
        }
        due.is("the face is " + seen, true, seen.equals(FACE));
        for (Method m : c.getDeclaredMethods()) {
            if (Modifier.isPrivate(m.getModifiers())) {
                due.is("private method with a public name: " + m, false, names.contains(m.getName()));
            }
        }
    }

    private static void checkFields(Due due, Class<?> c) {
        Set<String> seen = new TreeSet<>();
        for (Field f : c.getDeclaredFields()) {
            if (!Modifier.isPrivate(f.getModifiers())) {
                seen.add(f.getName());
            }
            if (Modifier.isStatic(f.getModifiers())) {
                due.is("static field is final: " + f, true, Modifier.isFinal(f.getModifiers()));
            }
        }
        due.is("the visible fields are " + seen, true, seen.equals(CONSTANTS));
    }

    private static String signature(String name, Class<?>[] types) {
        StringBuilder s = new StringBuilder(name).append('(');
        for (int i = 0; i < types.length; i++) {
            s.append(i > 0 ? "," : "").append(types[i].getName());
        }
        return s.append(')').toString();
    }
}
