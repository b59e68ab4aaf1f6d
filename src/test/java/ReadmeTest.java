import java.io.IOException;
import java.lang.reflect.Method;
import java.nio.file.Files;
import java.nio.file.Path;
import java.util.Map;
import java.util.regex.Matcher;
import java.util.regex.Pattern;

/** The run in README.md: each call answers what stands behind it. */
public final class ReadmeTest {
    private static final Pattern BLOCK = Pattern.compile("```java\n(.*?)```", Pattern.DOTALL);
    private static final Pattern MADE =
        Pattern.compile("TailedStore store = new TailedStore\\((\\d+), (\\d+)\\);.*");
    private static final Pattern CALL =
        Pattern.compile("store\\.(\\w+)\\((-?\\d+)?(?:, (-?\\d+))?\\); +// (-?\\w+): .*");
    private static final Map<String, Object> NAMES = Map.of("true", true, "false", false,
        "DOWN", TailedStore.DOWN, "BAD", TailedStore.BAD, "FULL", TailedStore.FULL, "REFUSED", TailedStore.REFUSED);

    private final Due due = new Due();
    private TailedStore store;

    public static void main(String[] args) throws IOException, ReflectiveOperationException {
        ReadmeTest t = new ReadmeTest();
        t.due.part("README.md");
        Matcher block = BLOCK.matcher(Files.readString(Path.of("README.md")));
        t.due.is("there is a run", true, block.find());
        for (String line : block.group(1).split("\n")) {
            t.check(line);
        }
        t.due.finish();
    }

    private void check(String line) throws ReflectiveOperationException {
        Matcher made = MADE.matcher(line);
        Matcher call = CALL.matcher(line);
        if (made.matches()) {
            store = new TailedStore(Integer.parseInt(made.group(1)), Integer.parseInt(made.group(2)));
        } else if (call.matches()) {
            Object answer = answer(call.group(1), call.group(2), call.group(3));
            due.is(line + " but it answers " + answer, true, answer.equals(wanted(call.group(4))));
        } else {
            due.is("a line of the run that can be read: " + line, true, false);
        }
    }

    private Object answer(String name, String first, String second) throws ReflectiveOperationException {
        if (first == null) {
            return TailedStore.class.getMethod(name).invoke(store);
        }
        if (second == null) {
            return TailedStore.class.getMethod(name, int.class).invoke(store, Integer.parseInt(first));
        }
        Method method = TailedStore.class.getMethod(name, int.class, int.class);
        return method.invoke(store, Integer.parseInt(first), Integer.parseInt(second));
    }

    private static Object wanted(String text) {
        return NAMES.containsKey(text) ? NAMES.get(text) : Integer.valueOf(text);
    }
}
