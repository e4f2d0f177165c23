import java.io.IOException;
import java.lang.reflect.InvocationTargetException;
import java.lang.reflect.Method;
import java.lang.reflect.Modifier;
import java.nio.file.Files;
import java.nio.file.Path;
import java.util.List;
import java.util.regex.Matcher;
import java.util.regex.Pattern;

/** The calls that README.md shows answer what stands behind them, and it names every call. */
public final class ReadmeTest {
    private static final Pattern MADE = Pattern.compile("PackedSlots x = new PackedSlots\\((\\d+)\\);.*");
    private static final Pattern CALL = Pattern.compile("x\\.(\\w+)\\(([^)]*)\\); *// (-?\\d+).*");
    private static final Due T = new Due("ReadmeTest");

    private ReadmeTest() {
    }

    public static void main(String[] args) throws IOException, ReflectiveOperationException {
        List<String> lines = Files.readAllLines(Path.of("README.md"));
        examples(lines);
        String text = String.join("\n", lines);
        for (Method m : PackedSlots.class.getDeclaredMethods()) {
            if (Modifier.isPublic(m.getModifiers())) {
                T.holds("README.md shows " + m.getName(), text.contains("\nx." + m.getName() + "("));
                T.holds("README.md tells of " + m.getName(), text.contains("\n| `" + m.getName() + "("));
            }
        }
        T.end();
    }

    /** One object for all of them, as a reader would go on with it from one example to the next. */
    private static void examples(List<String> lines) throws ReflectiveOperationException {
        PackedSlots x = null;
        boolean inside = false;
        for (String line : lines) {
            Matcher made = MADE.matcher(line);
            Matcher call = CALL.matcher(line);
            if (line.startsWith("```")) {
                inside = line.equals("```java");
            } else if (inside && made.matches()) {
                x = new PackedSlots(Integer.parseInt(made.group(1)));
            } else if (inside) {
                T.holds("a call with its answer: " + line, x != null && call.matches());
                T.due(line, answer(x, call.group(1), call.group(2)), Integer.parseInt(call.group(3)));
            }
        }
    }

    private static int answer(PackedSlots x, String name, String given) throws ReflectiveOperationException {
        String[] texts = given.isEmpty() ? new String[0] : given.split(", ");
        Object[] numbers = new Object[texts.length];
        Class<?>[] types = new Class<?>[texts.length];
        for (int k = 0; k < texts.length; k++) {
            numbers[k] = Long.decode(texts[k]).intValue();
            types[k] = int.class;
        }
        try {
            return (Integer) PackedSlots.class.getMethod(name, types).invoke(x, numbers);
        } catch (InvocationTargetException e) {
            throw new IllegalStateException("no call throws: " + name, e);
        }
    }
}
