import java.io.IOException;
import java.lang.reflect.Field;
import java.lang.reflect.Method;
import java.lang.reflect.Modifier;
import java.nio.file.Files;
import java.nio.file.Path;
import java.util.ArrayList;
import java.util.HashSet;
import java.util.List;
import java.util.Set;
import java.util.regex.Matcher;
import java.util.regex.Pattern;

/** The rules of LANGUAGE.md that can be seen from the text of the program or from its classes. */
public final class LanguageTest {
    private static final Path PROGRAM = Path.of("src/main/java/TailedStore.java");
    private static final int MOST_CLASSES = 12;
    private static final int MOST_FIELDS = 20;
    private static final int MOST_PARAMETERS = 7;
    private static final int MOST_LINES = 60;
    private static final Set<String> IMPORTS = Set.of("java.util.ArrayList", "java.util.Arrays",
        "java.util.Iterator", "java.util.List", "java.util.NoSuchElementException");
    private static final Set<String> LIBRARY = Set.of("String", "StringBuilder", "ArrayList", "List", "Integer",
        "Long", "Math", "Iterator", "Iterable", "Comparable", "System", "Arrays");
    // The document names no exception, so none is thrown and none is caught.
    private static final Set<String> NO_WORDS = Set.of("package", "throw", "throws", "try", "catch", "finally",
        "synchronized", "assert", "native", "volatile", "transient", "strictfp", "protected");
    private static final Set<Class<?>> CONSTANTS = Set.of(int.class, long.class, boolean.class, char.class,
        String.class, int[].class, long[].class, char[].class, byte[].class);
    private static final Pattern METHOD =
        Pattern.compile("^ {4,8}(?!(if|for|while|switch|record)\\b)\\w.*\\) \\{$");

    private final Due due = new Due();
    private final List<Class<?>> classes = new ArrayList<>();
    private final String text;
    private final String code;

    private LanguageTest(String text) {
        this.text = text;
        code = text.replaceAll("(?s)/\\*.*?\\*/", " ").replaceAll("//[^\n]*", " ");
        classes.add(TailedStore.class);
        classes.addAll(List.of(TailedStore.class.getDeclaredClasses()));
    }

    public static void main(String[] args) throws IOException {
        LanguageTest t = new LanguageTest(Files.readString(PROGRAM));
        t.words();
        t.imports();
        t.libraryNames();
        t.staticFields();
        t.sizes();
        t.methodLines();
        t.due.finish();
    }

    private void words() {
        due.part("rules 2 and 6");
        due.is("lambda or arrow", false, code.contains("->"));
        due.is("method reference", false, code.contains("::"));
        due.is("static initialiser block", false, Pattern.compile("\\bstatic\\s*\\{").matcher(code).find());
        for (String word : NO_WORDS) {
            due.is("the word " + word, false, Pattern.compile("\\b" + word + "\\b").matcher(code).find());
        }
    }

    private void imports() {
        due.part("rule 4");
        Matcher m = Pattern.compile("\\bimport\\s+([^;]+);").matcher(code);
        while (m.find()) {
            due.is("import " + m.group(1), true, IMPORTS.contains(m.group(1)));
        }
        m = Pattern.compile("\\bSystem\\.(\\w+)").matcher(code);
        while (m.find()) {
            due.is(m.group(), true, m.group(1).equals("arraycopy"));
        }
        due.is("a function that ends in Exact", false, Pattern.compile("\\w+Exact\\b").matcher(code).find());
        due.is("a full name of the library", false,
            Pattern.compile("\\bjavax?\\.").matcher(code.replaceAll("\\bimport[^;]+;", " ")).find());
    }

    private void libraryNames() {
        due.part("rules 3, 4 and 13");
        Set<String> own = new HashSet<>();
        for (Class<?> c : classes) {
            own.add(c.getSimpleName());
        }
        Matcher m = Pattern.compile("\\b[A-Z]\\w*[a-z]\\w*\\b").matcher(code);
        while (m.find()) {
            due.is("the class " + m.group(), true, own.contains(m.group()) || LIBRARY.contains(m.group()));
        }
    }

    private void staticFields() {
        due.part("rule 5");
        for (Class<?> c : classes) {
            for (Field f : c.getDeclaredFields()) {
                if (Modifier.isStatic(f.getModifiers())) {
                    due.is("final: " + f, true, Modifier.isFinal(f.getModifiers()));
                    due.is("a constant: " + f, true, c.isEnum() || CONSTANTS.contains(f.getType()));
                }
            }
        }
    }

    private void sizes() {
        due.part("rule 11");
        due.is("classes at most " + MOST_CLASSES, true, classes.size() <= MOST_CLASSES);
        for (Class<?> c : classes) {
            int fields = 0;
            for (Field f : c.getDeclaredFields()) {
                fields += Modifier.isStatic(f.getModifiers()) ? 0 : 1;
            }
            due.is("fields of " + c.getName() + " at most " + MOST_FIELDS, true, fields <= MOST_FIELDS);
            for (Method m : c.getDeclaredMethods()) {
                due.is("parameters of " + m, true, m.getParameterCount() <= MOST_PARAMETERS);
            }
        }
    }

    private void methodLines() {
        due.part("rule 11");
        String[] lines = text.split("\n");
        int methods = 0;
        for (int i = 0; i < lines.length; i++) {
            if (METHOD.matcher(lines[i]).find()) {
                methods++;
                String end = lines[i].replaceAll("\\S.*", "") + "}";
                int last = i + 1;
                while (last < lines.length && !lines[last].equals(end)) {
                    last++;
                }
                due.is("lines of the method at line " + (i + 1), true, last - i < MOST_LINES);
            }
        }
        int all = 0;
        for (Class<?> c : classes) {
            all += c.getDeclaredMethods().length;
        }
        due.is("methods that were seen in the text", true, methods >= all);
    }
}
