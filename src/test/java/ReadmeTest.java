import java.io.IOException;
import java.lang.reflect.InvocationTargetException;
import java.lang.reflect.Method;
import java.lang.reflect.Modifier;
import java.nio.file.Files;
import java.nio.file.Path;
import java.util.Arrays;
import java.util.HashSet;
import java.util.Set;
import java.util.regex.Matcher;
import java.util.regex.Pattern;

/** The example of README.md answers, line by line, what stands behind it there; its table names every call. */
public final class ReadmeTest {
    private static final Pattern BLOCK = Pattern.compile("(?s)```java\n(.*?)```");
    private static final Pattern CALL = Pattern.compile("x\\.(\\w+)\\((.*?)\\);\\s+// (-?\\d+)\\b.*");
    private static final String MAKING = "CrusherLoops x = new CrusherLoops();";

    private static final Checks CHECKS = new Checks();

    public static void main(String[] args) throws IOException, ReflectiveOperationException {
        String text = Files.readString(Path.of("README.md"));
        Matcher block = BLOCK.matcher(text);
        CHECKS.due("README.md has an example", block.find() ? 1 : 0, 1);
        example(block.group(1).split("\n"));
        table(text);
        CHECKS.end("ReadmeTest");
    }

    private static void example(String[] lines) throws ReflectiveOperationException {
        CrusherLoops x = new CrusherLoops();
        CHECKS.due("the first line makes an object", lines[0].equals(MAKING) ? 1 : 0, 1);
        for (int i = 1; i < lines.length; i++) {
            Matcher call = CALL.matcher(lines[i]);
            boolean read = call.matches();
            CHECKS.due("this line is a call with its answer: " + lines[i], read ? 1 : 0, 1);
            if (read) {
                CHECKS.due(lines[i], answer(x, call.group(1), numbers(call.group(2))), Long.parseLong(call.group(3)));
            }
        }
    }

    private static Object[] numbers(String told) {
        if (told.isEmpty()) {
            return new Object[0];
        }
        // ';' and '4' stand for their codes.
        return Arrays.stream(told.split(", "))
                .map(number -> number.startsWith("'") ? (Object) (int) number.charAt(1) : (Object) Integer.valueOf(number))
                .toArray();
    }

    private static long answer(CrusherLoops x, String name, Object[] numbers)
            throws IllegalAccessException, InvocationTargetException, NoSuchMethodException {
        Class<?>[] types = new Class<?>[numbers.length];
        Arrays.fill(types, int.class);
        return ((Number) CrusherLoops.class.getMethod(name, types).invoke(x, numbers)).longValue();
    }

    private static void table(String text) {
        Set<String> named = new HashSet<>();
        for (String line : text.split("\n")) {
            if (line.startsWith("| `")) {
                Matcher call = Pattern.compile("`(\\w+)\\(").matcher(line);
                while (call.find()) {
                    named.add(call.group(1));
                }
            }
        }
        for (Method method : CrusherLoops.class.getDeclaredMethods()) {
            if (Modifier.isPublic(method.getModifiers())) {
                CHECKS.due("the table names " + method.getName(), named.contains(method.getName()) ? 1 : 0, 1);
            }
        }
    }
}
