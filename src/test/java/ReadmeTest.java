import java.io.IOException;
import java.lang.reflect.InvocationTargetException;
import java.lang.reflect.Method;
import java.lang.reflect.Modifier;
import java.nio.file.Files;
import java.nio.file.Path;
import java.util.ArrayList;
import java.util.HashMap;
import java.util.List;
import java.util.Map;
import java.util.Set;
import java.util.TreeMap;
import java.util.TreeSet;
import java.util.regex.Matcher;
import java.util.regex.Pattern;

/** The example of use in README.md: its calls are read there and made, with the answers that it says. */
public final class ReadmeTest {
    private static final Check CHECK = new Check();
    private static final String NEW_OBJECT = "KiloFractions x = new KiloFractions();";

    /** Such as: int sum = x.add(third, half);  // 2, which is 5/6: a remark. */
    private static final Pattern CALL = Pattern.compile(
            "(?:(?<type>int|long|boolean) (?<name>\\w+) = )?"
                    + "(?<call>x\\.(?<method>\\w+)\\((?<arguments>[^()]*)\\)); +"
                    + "// (?<answer>-?\\d+|true|false|throws \\w+)"
                    + "(?:, which is (?<fraction>-?\\d+/\\d+))?(?:: .+)?");

    private final KiloFractions x = new KiloFractions();
    private final Map<String, Object> named = new HashMap<>();
    private final Set<String> called = new TreeSet<>();

    public static void main(String[] args) throws IOException {
        List<String> lines = exampleIn(Files.readAllLines(Path.of("README.md")));
        CHECK.answers("the first line of the example in README.md", NEW_OBJECT,
                () -> lines.isEmpty() ? "none" : lines.get(0));
        ReadmeTest example = new ReadmeTest();
        for (String line : lines) {
            example.line(line);
        }
        CHECK.answers("the methods that the example uses", methods().keySet(), () -> example.called);
        CHECK.end();
    }

    /** The lines of the first block of Java. */
    private static List<String> exampleIn(List<String> readme) {
        List<String> example = new ArrayList<>();
        int from = readme.indexOf("```java") + 1;
        for (int i = from; from > 0 && i < readme.size() && !readme.get(i).equals("```"); i++) {
            example.add(readme.get(i));
        }
        return example;
    }

    private static Map<String, Method> methods() {
        Map<String, Method> methods = new TreeMap<>();
        for (Method method : KiloFractions.class.getDeclaredMethods()) {
            if (Modifier.isPublic(method.getModifiers())) {
                methods.put(method.getName(), method);
            }
        }
        return methods;
    }

    private void line(String line) {
        if (line.isBlank() || line.startsWith("// ") || line.equals(NEW_OBJECT)) {
            return;
        }
        Matcher call = CALL.matcher(line);
        boolean isCall = call.matches() && methods().containsKey(call.group("method"));
        CHECK.answers("whether a call with its answer stands in the line: " + line, true, () -> isCall);
        if (isCall) {
            call(call);
        }
    }

    private void call(Matcher call) {
        String due = call.group("answer").replace("throws ", "throws.");
        Method method = methods().get(call.group("method"));
        Object got = Check.answerOf(() -> answer(method, arguments(call.group("arguments"))));
        called.add(method.getName());
        CHECK.answers(call.group("call"), due, () -> got.toString());
        if (call.group("fraction") != null) {
            CHECK.answers("the value of " + call.group("call"), call.group("fraction"),
                    () -> Check.text(x, Integer.parseInt(due)));
        }
        if (call.group("name") != null) {
            keep(call.group("type"), call.group("name"), method, got);
        }
    }

    /** Arguments that the method does not take are told apart from those that it refuses. */
    private Object answer(Method method, Object[] arguments) {
        try {
            return method.invoke(x, arguments);
        } catch (InvocationTargetException e) {
            throw (RuntimeException) e.getCause();
        } catch (IllegalAccessException | IllegalArgumentException e) {
            throw new IllegalStateException(e);
        }
    }

    private Object[] arguments(String text) {
        if (text.isEmpty()) {
            return new Object[0];
        }
        String[] written = text.split(", ");
        Object[] arguments = new Object[written.length];
        for (int i = 0; i < written.length; i++) {
            arguments[i] = named.containsKey(written[i]) ? named.get(written[i]) : number(written[i]);
        }
        return arguments;
    }

    private static Object number(String written) {
        if (written.endsWith("L")) {
            return Long.parseLong(written.substring(0, written.length() - 1));
        }
        return Integer.parseInt(written);
    }

    /** Java takes a name once only, and for what the method answers. */
    private void keep(String type, String name, Method method, Object got) {
        CHECK.answers("the type of " + name, method.getReturnType().getName(), () -> type);
        CHECK.answers("whether " + name + " is a new name", false, () -> named.containsKey(name));
        named.put(name, got);
    }
}
