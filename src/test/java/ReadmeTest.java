import java.lang.reflect.InvocationTargetException;
import java.lang.reflect.Method;
import java.lang.reflect.Modifier;
import java.nio.file.Files;
import java.nio.file.Path;
import java.util.HashMap;
import java.util.Map;
import java.util.Set;
import java.util.TreeSet;
import java.util.regex.Matcher;
import java.util.regex.Pattern;

/**
 * Makes the calls that stand in README.md's Java blocks, from the first to the last, and compares
 * what they answer with what stands behind them. It runs from the top of the checkout.
 */
public final class ReadmeTest {
    private static final String NEW = "HandlerOptimizer x = new HandlerOptimizer();";
    private static final Pattern CALL =
            Pattern.compile("x\\.(\\w+)\\(([-\\d, ]*)\\); +// (throws \\w+|[-\\w.]+)(: .+)?");

    private static final Map<String, Method> methods = new HashMap<>();
    private static final Set<String> unseen = new TreeSet<>();
    private static HandlerOptimizer x = null;
    private static int calls = 0;
    private static int wrong = 0;

    private ReadmeTest() {
    }

    private static void tellWrong(String what) {
        wrong++;
        System.out.println(what);
    }

    private static void findMethods() {
        for (Method method : HandlerOptimizer.class.getDeclaredMethods()) {
            if (Modifier.isPublic(method.getModifiers())) {
                methods.put(method.getName(), method);
            }
        }
        unseen.addAll(methods.keySet());
    }

    private static Object[] numbers(Method method, String text) {
        Class<?>[] types = method.getParameterTypes();
        String[] words = text.isEmpty() ? new String[0] : text.split(", ");
        if (words.length != types.length) {
            return null;
        }
        Object[] numbers = new Object[types.length];
        for (int n = 0; n < numbers.length; n++) {
            if (types[n] == long.class) {
                numbers[n] = Long.valueOf(words[n]);
            } else {
                numbers[n] = Integer.valueOf(words[n]);
            }
        }
        return numbers;
    }

    private static String answer(Method method, Object[] numbers) throws IllegalAccessException {
        try {
            return String.valueOf(method.invoke(x, numbers));
        } catch (InvocationTargetException e) {
            return "throws " + e.getCause().getClass().getSimpleName();
        }
    }

    private static void check(String line) throws IllegalAccessException {
        if (line.equals(NEW)) {
            x = new HandlerOptimizer();
            return;
        }
        Matcher call = CALL.matcher(line);
        Method method = call.matches() ? methods.get(call.group(1)) : null;
        Object[] numbers = method == null ? null : numbers(method, call.group(2));
        if (numbers == null || x == null) {
            tellWrong("no call with an answer: " + line);
            return;
        }
        calls++;
        unseen.remove(method.getName());
        String got = answer(method, numbers);
        if (!got.equals(call.group(3))) {
            tellWrong(line + "\n    answered " + got);
        }
    }

    public static void main(String[] args) throws Exception {
        findMethods();
        boolean inJava = false;
        for (String line : Files.readAllLines(Path.of("README.md"))) {
            if (line.startsWith("```")) {
                inJava = line.equals("```java");
            } else if (inJava) {
                check(line);
            }
        }
        if (!unseen.isEmpty()) {
            tellWrong("no call of " + unseen);
        }
        System.out.println(calls + " calls of README.md, " + wrong + " wrong");
        System.exit(wrong == 0 ? 0 : 1);
    }
}
