import java.lang.reflect.InvocationTargetException;
import java.lang.reflect.Method;
import java.lang.reflect.Modifier;
import java.util.ArrayList;
import java.util.Arrays;
import java.util.Comparator;
import java.util.List;

/**
 * Long runs of calls: only what the document names is thrown, and a machine answers as a second one for which the
 * refused calls were left out.
 */
public final class LongRunTest {
    private static final int RUNS = 600;
    private static final int CALLS = 512;
    private static final String LETTERS = "kr-csuxtibaBAfF~!";
    private static long seed = 1;

    public static void main(String[] args) throws IllegalAccessException {
        List<Method> calls = new ArrayList<>();
        for (Method method : TypebarWorks.class.getDeclaredMethods()) {
            if (Modifier.isPublic(method.getModifiers())) {
                int weight = method.getName().equals("strike") ? 20 : method.getName().equals("bar") ? 3 : 1;
                for (int index = 0; index < weight; index++) {
                    calls.add(method);
                }
            }
        }
        // reflection gives them in no certain order
        calls.sort(Comparator.comparing(Method::getName));
        for (int run = 0; run < RUNS; run++) {
            run(run, calls);
        }
        Check.end();
    }

    private static void run(int number, List<Method> calls) throws IllegalAccessException {
        TypebarWorks all = new TypebarWorks();
        TypebarWorks accepted = new TypebarWorks();
        for (int index = 0; index < CALLS; index++) {
            Method method = calls.get(next(calls.size()));
            Object[] arguments = argumentsOf(method, number % 3 == 0);
            String call = "run " + number + ": " + method.getName() + Arrays.toString(arguments);
            Object answer = answerOf(call, all, method, arguments);
            if (answer != null) {
                Object due = answerOf(call + " without refused ones", accepted, method, arguments);
                Check.same(call + " is not changed by refused ones", answer.equals(due), true);
                Check.same(call + " is true", !method.getName().equals("isTrue") || answer.equals(true), true);
            }
        }
    }

    /** What a call answers, or null if it is refused. */
    private static Object answerOf(String call, TypebarWorks x, Method method, Object[] arguments)
            throws IllegalAccessException {
        try {
            return method.invoke(x, arguments);
        } catch (InvocationTargetException e) {
            Class<?> thrown = e.getCause().getClass();
            boolean isNamed = Arrays.asList(method.getExceptionTypes()).contains(thrown);
            Check.same(call + " may throw " + thrown.getSimpleName(), isNamed, true);
            boolean isOwn = e.getCause().getStackTrace()[0].getClassName().startsWith("TypebarWorks");
            Check.same(call + " throws itself", isOwn, true);
            return null;
        }
    }

    private static Object[] argumentsOf(Method method, boolean wild) {
        Class<?>[] types = method.getParameterTypes();
        Object[] arguments = new Object[types.length];
        for (int index = 0; index < types.length; index++) {
            if (types[index] == boolean.class) {
                arguments[index] = next(2) == 0;
            } else if (types[index] == char.class) {
                arguments[index] = next(9) == 0 ? (char) next(65536) : LETTERS.charAt(next(LETTERS.length()));
            } else if (wild && next(5) == 0) {
                arguments[index] = (int) (random() >>> 16);
            } else {
                int[] reaches = {4, 10, 24, 200};
                arguments[index] = next(reaches[next(reaches.length)]) - (next(4) == 0 ? 3 : 0);
            }
        }
        return arguments;
    }

    private static long random() {
        seed = seed * 6364136223846793005L + 1442695040888963407L;
        return seed;
    }

    private static int next(int bound) {
        return (int) ((random() >>> 33) % bound);
    }
}
