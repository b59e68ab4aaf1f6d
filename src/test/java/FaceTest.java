import java.lang.reflect.Constructor;
import java.lang.reflect.Field;
import java.lang.reflect.Method;
import java.lang.reflect.Modifier;
import java.util.Set;
import java.util.TreeSet;

/** The class shows the document's face, word by word, and no other member. */
public final class FaceTest {
    private static final Set<String> METHODS = Set.of(
        "public int put(int,int)", "public int add(int,int)", "public int delete(int)", "public int read(int)",
        "public int value()", "public int checkpoint()", "public int step()", "public int grow()",
        "public int compact()", "public boolean fuse(int)", "public int recover()", "public int address(int)",
        "public int entry(int,int)", "public int bucket(int)", "public int size(int)");
    private static final Set<String> CONSTANTS = Set.of(
        "public static final int DOWN = -9", "public static final int BAD = -1",
        "public static final int FULL = -2", "public static final int REFUSED = -3");

    private final Due due = new Due();

    public static void main(String[] args) throws IllegalAccessException {
        FaceTest t = new FaceTest();
        t.due.part("The public face");
        t.checkClass();
        t.checkConstructor();
        t.checkMethods();
        t.checkFields();
        t.checkClassesInside();
        t.due.finish();
    }

    private void checkClass() {
        Class<?> c = TailedStore.class;
        due.is("public final class and no more", Modifier.PUBLIC | Modifier.FINAL, c.getModifiers());
        due.is("without a package", true, c.getPackageName().isEmpty());
        due.is("extends nothing", true, c.getSuperclass() == Object.class && c.getInterfaces().length == 0);
    }

    private void checkConstructor() {
        Constructor<?>[] made = TailedStore.class.getDeclaredConstructors();
        due.is("constructors", 1, made.length);
        due.is(made[0].toString(), true, made[0].toString().equals("public TailedStore(int,int)"));
    }

    private void checkMethods() {
        Set<String> seen = new TreeSet<>();
        Set<String> names = new TreeSet<>();
        for (Method m : TailedStore.class.getDeclaredMethods()) {
            if (!Modifier.isPrivate(m.getModifiers())) {
                seen.add(m.toString().replace("TailedStore.", ""));
                names.add(m.getName());
            }
        }
        due.is("the methods are " + seen, true, seen.equals(METHODS));
        for (Method m : TailedStore.class.getDeclaredMethods()) {
            if (Modifier.isPrivate(m.getModifiers())) {
                due.is("private method with a public name: " + m, false, names.contains(m.getName()));
            }
        }
    }

    private void checkFields() throws IllegalAccessException {
        Set<String> seen = new TreeSet<>();
        for (Field f : TailedStore.class.getDeclaredFields()) {
            if (!Modifier.isPrivate(f.getModifiers())) {
                String kind = Modifier.toString(f.getModifiers()) + " " + f.getType() + " " + f.getName();
                seen.add(Modifier.isStatic(f.getModifiers()) ? kind + " = " + f.get(null) : kind);
            }
        }
        due.is("the visible fields are " + seen, true, seen.equals(CONSTANTS));
    }

    private void checkClassesInside() {
        for (Class<?> inner : TailedStore.class.getDeclaredClasses()) {
            int modifiers = inner.getModifiers();
            due.is("static, private or package-visible: " + inner.getName(), true, Modifier.isStatic(modifiers)
                && !Modifier.isPublic(modifiers) && !Modifier.isProtected(modifiers));
        }
    }
}
