import java.lang.reflect.Field;
import java.lang.reflect.Method;
import java.lang.reflect.Modifier;
import java.util.Set;
import java.util.TreeSet;

/** The public face: the document's constructor and methods, with what they throw, and no other member. */
public final class FaceTest {
    private static final String INDEX = "IndexOutOfBoundsException";
    private static final String RANGE = "IllegalArgumentException";
    private static final String MEANING = "UnsupportedOperationException";
    private static final String ARITHMETIC = "ArithmeticException";
    private static final String[] FACE = {
        line("int value(long, long)", MEANING, ARITHMETIC),
        line("int add(int, int)", INDEX, MEANING),
        line("int less(int, int)", INDEX, MEANING),
        line("int times(int, int)", INDEX, MEANING),
        line("int over(int, int)", INDEX, MEANING, ARITHMETIC),
        line("int order(int, int)", INDEX),
        line("int round(int, int, long)", INDEX, RANGE, MEANING),
        line("int span(int, int)", INDEX, MEANING),
        line("int spanTimes(int, int)", INDEX, MEANING),
        line("int end(int, int)", INDEX),
        line("boolean within(int, int)", INDEX),
        line("int weight(long)", RANGE, MEANING),
        line("long share(long, int)", INDEX, RANGE, ARITHMETIC),
        line("int giving(int)", INDEX, MEANING),
        line("int rest()", MEANING),
        line("int sign(int)", INDEX),
        line("int digit(int, int, int)", INDEX),
    };

    public static void main(String[] args) {
        Check check = new Check();
        Class<KiloFractions> face = KiloFractions.class;
        check.answers("the modifiers", Modifier.PUBLIC | Modifier.FINAL, () -> face.getModifiers());
        check.answers("the constructors", 1, () -> face.getDeclaredConstructors().length);
        check.answers("the public constructor's parameters", 0, () -> face.getConstructors()[0].getParameterCount());
        check.answers("the methods", new TreeSet<>(Set.of(FACE)), () -> openMethods(face));
        for (Field field : face.getDeclaredFields()) {
            check.answers("private " + field.getName(), true, () -> Modifier.isPrivate(field.getModifiers()));
        }
        for (Class<?> inside : face.getDeclaredClasses()) {
            check.answers("static " + inside.getName(), true, () -> Modifier.isStatic(inside.getModifiers()));
        }
        check.end();
    }

    private static Set<String> openMethods(Class<?> face) {
        Set<String> open = new TreeSet<>();
        for (Method method : face.getDeclaredMethods()) {
            if (!Modifier.isPrivate(method.getModifiers())) {
                open.add(line(method));
            }
        }
        return open;
    }

    private static String line(Method method) {
        return line(method.getReturnType() + " " + method.getName() + names(method.getParameterTypes()),
                names(method.getExceptionTypes()).replaceAll("[()]", "").split(", "));
    }

    private static String line(String head, String... thrown) {
        return head + " throws " + String.join(", ", thrown);
    }

    private static String names(Class<?>[] types) {
        StringBuilder names = new StringBuilder();
        for (Class<?> type : types) {
            names.append(names.length() == 0 ? "" : ", ").append(type.getSimpleName());
        }
        return "(" + names + ")";
    }
}
