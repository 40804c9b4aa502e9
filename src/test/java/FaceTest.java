import java.lang.management.ManagementFactory;
import java.lang.reflect.Constructor;
import java.lang.reflect.Field;
import java.lang.reflect.Method;
import java.lang.reflect.Modifier;
import java.util.Arrays;
import java.util.Set;
import java.util.TreeSet;

/** The class has the document's face and nothing more to be seen, and its calls make no objects. */
public final class FaceTest {
    private static final String INDEX = " IndexOutOfBoundsException";
    private static final String ARGUMENT = " IllegalArgumentException";
    private static final String STATE = " IllegalStateException";

    private static final Set<String> FACE = new TreeSet<>(Set.of(
            "int addKind(int)" + INDEX + STATE,
            "int kindCount()",
            "boolean isBelow(int, int)" + INDEX,
            "int common(int, int)" + INDEX,
            "int step(int)" + ARGUMENT + STATE,
            "int jump(int)" + ARGUMENT + STATE,
            "int branch(int, int)" + ARGUMENT + STATE,
            "int end()" + STATE,
            "int raise(int)" + INDEX + STATE,
            "int size()",
            "int instruction(int, int)" + INDEX,
            "int addEntry(int, int, int, int)" + INDEX + ARGUMENT + STATE,
            "int removeEntry(int)" + INDEX,
            "int entryCount()",
            "int entry(int, int)" + INDEX,
            "int taker(int, int)" + INDEX,
            "boolean isReached(int)" + INDEX,
            "boolean isUsed(int)" + INDEX,
            "int leaving()",
            "double share()",
            "int parts()",
            "int drop()",
            "int shrink()",
            "int join()",
            "int improve()",
            "int sweep()",
            "int run(long, int)" + ARGUMENT,
            "int executed()",
            "int taken()",
            "int escaped()",
            "long way()",
            "long digest()"));

    private static int wrong = 0;

    private FaceTest() {
    }

    private static void due(String what, Object got, Object want) {
        if (!got.equals(want)) {
            wrong++;
            System.out.println(what + ": " + got + ", due is " + want);
        }
    }

    private static String signature(Method method) {
        StringBuilder text = new StringBuilder();
        String parameters = Arrays.toString(method.getParameterTypes());
        text.append(method.getReturnType()).append(' ').append(method.getName()).append('(')
                .append(parameters, 1, parameters.length() - 1).append(')');
        for (Class<?> thrown : method.getExceptionTypes()) {
            text.append(' ').append(thrown.getSimpleName());
        }
        return text.toString();
    }

    private static void checkMembers() {
        Class<?> face = HandlerOptimizer.class;
        due("modifiers", Modifier.toString(face.getModifiers()), "public final");
        Set<String> seen = new TreeSet<>();
        Set<String> names = new TreeSet<>();
        for (Method method : face.getDeclaredMethods()) {
            if (Modifier.isPublic(method.getModifiers())) {
                seen.add(signature(method));
                names.add(method.getName());
            }
        }
        due("face", seen, FACE);
        for (Method method : face.getDeclaredMethods()) {
            boolean isPrivate = Modifier.isPrivate(method.getModifiers());
            due(method + " is seen as it should be", isPrivate, !names.contains(method.getName()));
        }
        for (Field field : face.getDeclaredFields()) {
            due(field + " is private", Modifier.isPrivate(field.getModifiers()), true);
            boolean isStatic = Modifier.isStatic(field.getModifiers());
            due(field + " is final if static",
                    !isStatic || Modifier.isFinal(field.getModifiers()), true);
        }
        Constructor<?>[] constructors = face.getDeclaredConstructors();
        due("constructors", Arrays.toString(constructors), "[public HandlerOptimizer()]");
        for (Class<?> inside : face.getDeclaredClasses()) {
            due(inside + " is static", Modifier.isStatic(inside.getModifiers()), true);
            due(inside + " is hidden",
                    inside.getModifiers() & (Modifier.PUBLIC | Modifier.PROTECTED), 0);
            for (Method method : inside.getDeclaredMethods()) {
                due(method + " has a name of the face", names.contains(method.getName()), false);
            }
        }
    }

    private static HandlerOptimizer full() {
        HandlerOptimizer x = new HandlerOptimizer();
        for (int k = 1; k < 8; k++) {
            x.addKind(k / 2);
        }
        for (int i = 0; i < 48; i++) {
            x.branch(255, i * 7 % 48);
        }
        for (int e = 0; e < 24; e++) {
            x.addEntry(e, e + 20, e % 8, e % 3);
        }
        return x;
    }

    private static long useAll(HandlerOptimizer x) {
        long sum = x.leaving() + x.parts() + x.drop() + x.shrink() + x.join();
        sum += x.improve() + x.sweep() + x.run(Long.MAX_VALUE, 500) + x.way() + x.digest();
        sum += x.share() > 0 ? 1 : 0;
        sum += (x.isReached(3) ? 1 : 0) + (x.isUsed(0) ? 1 : 0) + x.common(3, 4) + x.taker(4, 4);
        return sum + x.removeEntry(0) + x.addEntry(0, 5, 1, 1);
    }

    private static void checkRoom() {
        com.sun.management.ThreadMXBean threads =
                (com.sun.management.ThreadMXBean) ManagementFactory.getThreadMXBean();
        long self = Thread.currentThread().getId();
        HandlerOptimizer x = full();
        long sum = useAll(full());
        long before = threads.getThreadAllocatedBytes(self);
        for (int i = 0; i < 25; i++) {
            sum += useAll(x);
        }
        long made = threads.getThreadAllocatedBytes(self) - before;
        due("calls make no objects (" + made + " bytes, sum " + sum + ")", made < 2000, true);
    }

    public static void main(String[] args) {
        checkMembers();
        checkRoom();
        System.out.println(wrong == 0 ? "the face is as due" : wrong + " differences");
        System.exit(wrong == 0 ? 0 : 1);
    }
}
