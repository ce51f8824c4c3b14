import java.io.IOException;
import java.lang.reflect.InvocationTargetException;
import java.lang.reflect.Method;
import java.lang.reflect.Modifier;
import java.nio.file.Files;
import java.nio.file.Path;
import java.util.HashMap;
import java.util.Map;
import java.util.Set;
import java.util.TreeSet;
import java.util.regex.Matcher;
import java.util.regex.Pattern;

/** Runs README.md's examples, one after another on one object: each answers what the page says behind it. */
public final class ReadmeTest {
    private static final String NEW_SKY = "StarPlates sky = new StarPlates();";
    private static final Pattern CALL = Pattern.compile("sky\\.(\\w+)\\(([^)]*)\\);\\s+// (-?\\w+).*");
    private static final Pattern CONSTANT = Pattern.compile("\\| `([A-Z]+)` \\| (-\\d+|`Long\\.MIN_VALUE`) \\|.*");

    private final Check check = new Check("ReadmeTest");
    private final Map<String, Method> face = new HashMap<>();
    private final Set<String> unused = new TreeSet<>();
    private final Set<String> untold = new TreeSet<>();
    private StarPlates sky = null;

    private ReadmeTest() {
        for (Method m : StarPlates.class.getDeclaredMethods()) {
            if (Modifier.isPublic(m.getModifiers())) face.put(m.getName(), m);
        }
        unused.addAll(face.keySet());
        for (var f : StarPlates.class.getFields()) untold.add(f.getName());
    }

    public static void main(String[] args) throws IOException, ReflectiveOperationException {
        ReadmeTest test = new ReadmeTest();
        boolean inExample = false;
        for (String line : Files.readAllLines(Path.of("README.md"))) {
            if (line.startsWith("```")) inExample = line.equals("```java");
            else if (inExample) test.example(line);
            else test.constant(line);
        }
        test.check.holds("each call has an example; without one: " + test.unused, test.unused.isEmpty());
        test.check.holds("each constant is told; not told: " + test.untold, test.untold.isEmpty());
        test.check.end();
    }

    private void example(String line) throws ReflectiveOperationException {
        if (line.equals(NEW_SKY)) {
            sky = new StarPlates();
            return;
        }
        Matcher told = CALL.matcher(line);
        boolean isCall = told.matches() && face.containsKey(told.group(1)) && sky != null;
        check.holds("a call and its answer: " + line, isCall);
        if (!isCall) return;
        unused.remove(told.group(1));
        try {
            check.due(line, answer(told.group(1), told.group(2)), due(told.group(3)));
        } catch (InvocationTargetException e) {
            check.holds(line + " threw " + e.getCause(), false);
        }
    }

    private long answer(String name, String arguments) throws ReflectiveOperationException {
        Method method = face.get(name);
        String[] told = arguments.isEmpty() ? new String[0] : arguments.split(", ");
        Object[] with = new Object[told.length];
        for (int i = 0; i < told.length; i++) {
            boolean isWord = told[i].equals("true") || told[i].equals("false");
            with[i] = isWord ? (Object) Boolean.valueOf(told[i]) : (Object) Integer.valueOf(told[i]);
        }
        return ((Number) method.invoke(sky, with)).longValue();
    }

    private static long due(String told) throws ReflectiveOperationException {
        return told.matches("-?\\d+") ? Long.parseLong(told) : StarPlates.class.getField(told).getLong(null);
    }

    private void constant(String line) throws ReflectiveOperationException {
        Matcher told = CONSTANT.matcher(line);
        if (!told.matches()) return;
        long value = told.group(2).startsWith("`") ? Long.MIN_VALUE : Long.parseLong(told.group(2));
        check.due(told.group(1), StarPlates.class.getField(told.group(1)).getLong(null), value);
        untold.remove(told.group(1));
    }
}
