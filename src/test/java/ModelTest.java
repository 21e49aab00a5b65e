import java.lang.reflect.InvocationTargetException;
import java.lang.reflect.Method;
import java.lang.reflect.Modifier;
import java.util.ArrayList;
import java.util.Arrays;
import java.util.Comparator;
import java.util.List;

/** Long runs of calls, most of them such as go through: the machine answers as the model does. */
public final class ModelTest {
    private static final int RUNS = 500;
    private static final int CALLS = 512;
    private static final String SIGNS = "aAbBcC^~";
    private static final int[] BARS = {0, 1, 2, 5, 18, 19};
    private static final int[] DEAD_BARS = {20, 21, 23};
    private static final int[] PLACES = {0, 1, 2, 5, 18, 19, 20, 21, 23};
    private static final Method BAR = called("bar");
    private static final Method DEAD = called("dead");
    private static final Method FREE = called("free");
    private static final Method STRIKE = called("strike");
    private static final Method[] READ = {called("cause"), called("whose"), called("likenessBits"), called("pitch")};
    // calls that would end too often what takes long to come about
    private static final List<String> RARE = List.of("page", "ribbon", "solder", "margins", "sample", "bar", "dead");
    private static long seed = 1;

    public static void main(String[] args) throws ReflectiveOperationException {
        List<Method> calls = new ArrayList<>();
        for (Method method : TypebarWorks.class.getDeclaredMethods()) {
            if (Modifier.isPublic(method.getModifiers())) {
                calls.add(method);
            }
        }
        // reflection gives them in no certain order
        calls.sort(Comparator.comparing(Method::getName));
        for (int run = 0; run < RUNS; run++) {
            run(run, calls);
        }
        Check.end();
    }

    private static void run(int run, List<Method> calls) throws ReflectiveOperationException {
        TypebarWorks machine = new TypebarWorks();
        Model model = new Model();
        String before = "";
        for (int index = 0; index < CALLS; index++) {
            boolean puts = index < PLACES.length && run % 5 != 0;
            Method method = puts ? put(index) : before.equals("j") ? FREE : any(calls);
            Object[] values = puts ? new Object[] {PLACES[index], sign(), sign()} : argumentsOf(method, run);
            Method other = Model.class.getDeclaredMethod(method.getName(), method.getParameterTypes());
            before = answerOf(machine, method, values);
            Check.text("run " + run + ", call " + index + ": " + method.getName() + Arrays.toString(values),
                    before, answerOf(model, other, values));
        }
    }

    private static Method put(int index) {
        return PLACES[index] < 20 ? BAR : DEAD;
    }

    private static Method any(List<Method> calls) {
        Method method = next(10) == 0 ? READ[next(READ.length)] : next(2) == 0 ? STRIKE : calls.get(next(calls.size()));
        return RARE.contains(method.getName()) && next(6) != 0 ? STRIKE : method;
    }

    private static Method called(String name) {
        for (Method method : TypebarWorks.class.getDeclaredMethods()) {
            if (Modifier.isPublic(method.getModifiers()) && method.getName().equals(name)) {
                return method;
            }
        }
        throw new IllegalStateException("the face has no " + name);
    }

    private static String answerOf(Object x, Method method, Object[] values) throws IllegalAccessException {
        try {
            Object answer = method.invoke(x, values);
            return answer instanceof Float ? "bits " + Float.floatToIntBits((Float) answer) : String.valueOf(answer);
        } catch (InvocationTargetException e) {
            return e.getCause().getClass().getSimpleName();
        }
    }

    private static Object[] argumentsOf(Method method, int run) {
        // slow strokes fill pages, fast ones jam
        int longest = 1 + run % 40;
        return switch (method.getName()) {
            case "bar" -> new Object[] {next(50) == 0 ? 20 : of(BARS), sign(), sign()};
            case "dead" -> new Object[] {next(50) == 0 ? 19 : of(DEAD_BARS), sign(), sign()};
            case "align" -> new Object[] {place(), near(0, 3), near(0, 1), near(0, 3)};
            case "solder", "wear" -> new Object[] {place()};
            case "speed" -> new Object[] {place(), near(5, 4), near(5, 4)};
            case "carriage" -> new Object[] {next(102) - 1, of(1, 2, 5, 10, 20, 50)};
            case "margins" -> new Object[] {next(20), next(4) == 0 ? next(40) : 150 + next(51), next(32)};
            case "stop" -> new Object[] {next(201), next(3) != 0};
            case "decimal" -> new Object[] {next(11)};
            case "roll" -> new Object[] {next(4) == 0 ? near(0, 31) : near(0, 2)};
            case "lines" -> new Object[] {1 + next(5)};
            case "ribbon" -> new Object[] {next(2) == 0 ? next(5) : 2 + next(99)};
            case "colour" -> new Object[] {"kr-x".charAt(next(4))};
            case "ink" -> new Object[] {next(12) - 1, "krx".charAt(next(3))};
            case "shift" -> new Object[] {next(2) == 0};
            case "level" -> new Object[] {near(0, next(2) * 4)};
            case "strike" -> new Object[] {place(), next(60) == 0 ? 100 : next(longest)};
            case "mark" -> new Object[] {next(next(60) + 1), "rcsuxtikq".charAt(next(9))};
            case "cause" -> new Object[] {sign()};
            case "likenessBits" -> new Object[] {next(3)};
            default -> new Object[0];
        };
    }

    private static int place() {
        return next(50) == 0 ? of(-1, 24, 3) : next(4) == 0 ? of(DEAD_BARS) : of(BARS);
    }

    private static char sign() {
        return next(60) == 0 ? (char) (32 + 95 * next(2)) : SIGNS.charAt(next(SIGNS.length()));
    }

    private static int near(int middle, int reach) {
        return middle + next(2 * reach + 1) - reach;
    }

    private static int of(int... numbers) {
        return numbers[next(numbers.length)];
    }

    private static int next(int bound) {
        seed = seed * 6364136223846793005L + 1442695040888963407L;
        return (int) ((seed >>> 33) % bound);
    }
}
