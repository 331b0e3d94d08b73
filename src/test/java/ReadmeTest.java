import java.lang.reflect.Method;
import java.lang.reflect.Modifier;
import java.nio.file.Files;
import java.nio.file.Path;
import java.util.List;
import java.util.regex.Matcher;
import java.util.regex.Pattern;

/** Makes the calls of README.md's examples: each answers what stands behind it. */
public final class ReadmeTest {
    private static final String MAKES = "ShodBackwards moor = new ShodBackwards();";
    private static final Pattern CALLS = Pattern.compile("moor\\.(\\w+)\\(([-0-9, ]*)\\); +// (-?[0-9]+)( .*)?");

    public static void main(String[] args) throws Exception {
        List<String> lines = Files.readAllLines(Path.of("README.md"));
        Due.is("README examples", examplesIn(lines), 2);
        everyCallIsTold(String.join("\n", lines));
        Due.end();
    }

    private static int examplesIn(List<String> lines) throws Exception {
        ShodBackwards moor = null;
        boolean inside = false;
        int examples = 0;
        for (String line : lines) {
            if (line.equals("```java")) {
                inside = true;
            } else if (line.equals("```")) {
                inside = false;
            } else if (inside && line.equals(MAKES)) {
                moor = new ShodBackwards();
                examples++;
            } else if (inside) {
                makeCall(moor, line);
            }
        }
        return examples;
    }

    private static void makeCall(ShodBackwards moor, String line) throws Exception {
        Matcher call = CALLS.matcher(line);
        Due.is("README reads: " + line, moor != null && call.matches() ? 1 : 0, 1);
        if (moor == null || !call.matches()) {
            return;
        }
        Method method = methodOf(call.group(1));
        Object[] numbers = numbersOf(method, call.group(2));
        Due.is("README: " + line, (Integer) method.invoke(moor, numbers), Long.parseLong(call.group(3)));
    }

    private static Method methodOf(String name) {
        for (Method method : ShodBackwards.class.getDeclaredMethods()) {
            if (method.getName().equals(name)) {
                return method;
            }
        }
        throw new IllegalStateException("no call " + name);
    }

    private static Object[] numbersOf(Method method, String told) {
        String[] words = told.isEmpty() ? new String[0] : told.split(", *");
        Object[] numbers = new Object[words.length];
        for (int i = 0; i < words.length; i++) {
            boolean isLong = method.getParameterTypes()[i] == long.class;
            numbers[i] = isLong ? (Object) Long.parseLong(words[i]) : (Object) Integer.parseInt(words[i]);
        }
        return numbers;
    }

    /** No call of the face is left out of the page. */
    private static void everyCallIsTold(String page) {
        for (Method method : ShodBackwards.class.getDeclaredMethods()) {
            if (Modifier.isPublic(method.getModifiers())) {
                Due.is("README tells " + method.getName(), page.contains("`" + method.getName() + "`") ? 1 : 0, 1);
            }
        }
    }
}
