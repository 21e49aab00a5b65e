import java.io.IOException;
import java.lang.reflect.InvocationTargetException;
import java.lang.reflect.Method;
import java.lang.reflect.Modifier;
import java.nio.file.Files;
import java.nio.file.Path;
import java.util.Set;
import java.util.TreeSet;
import java.util.regex.Matcher;
import java.util.regex.Pattern;

/** The calls in README.md: each answers as it says there, and each call of the face is among them. */
public final class ReadmeTest {
    private static final Pattern CALL = Pattern.compile("x\\.(\\w+)\\((.*)\\); +// (.*)");
    private static final String MADE = "TypebarWorks x = new TypebarWorks();";
    private static final Set<String> SEEN = new TreeSet<>();

    public static void main(String[] args) throws IOException, IllegalAccessException {
        TypebarWorks x = null;
        boolean isInside = false;
        for (String line : Files.readAllLines(Path.of("README.md"))) {
            if (line.startsWith("```")) {
                isInside = line.equals("```java");
                x = null;
            } else if (isInside && line.equals(MADE)) {
                x = new TypebarWorks();
            } else if (isInside) {
                lookAt(line, x);
            }
        }
        for (Method method : TypebarWorks.class.getDeclaredMethods()) {
            if (Modifier.isPublic(method.getModifiers())) {
                Check.same("README.md shows " + method.getName(), SEEN.contains(method.getName()), true);
            }
        }
        Check.end();
    }

    private static void lookAt(String line, TypebarWorks x) throws IllegalAccessException {
        Matcher call = CALL.matcher(line);
        Check.same("a machine was made ahead of " + line, x != null, true);
        Check.same("a call and its answer: " + line, call.matches(), true);
        if (x != null && call.matches()) {
            SEEN.add(call.group(1));
            String due = call.group(3).split(": ")[0];
            Check.text(line, answerOf(x, call.group(1), call.group(2)), due);
        }
    }

    private static String answerOf(TypebarWorks x, String name, String arguments) throws IllegalAccessException {
        String[] parts = arguments.isEmpty() ? new String[0] : arguments.split(", ");
        Object[] values = new Object[parts.length];
        for (int index = 0; index < parts.length; index++) {
            values[index] = valueOf(parts[index]);
        }
        for (Method method : TypebarWorks.class.getDeclaredMethods()) {
            if (Modifier.isPublic(method.getModifiers()) && method.getName().equals(name)) {
                return answerOf(x, method, values);
            }
        }
        return "no such call";
    }

    private static String answerOf(TypebarWorks x, Method method, Object[] values) throws IllegalAccessException {
        try {
            Object answer = method.invoke(x, values);
            return answer instanceof Character ? "'" + answer + "'" : String.valueOf(answer);
        } catch (InvocationTargetException e) {
            return "throws " + e.getCause().getClass().getSimpleName();
        }
    }

    private static Object valueOf(String text) {
        if (text.startsWith("'")) {
            return text.charAt(1);
        }
        if (text.equals("true") || text.equals("false")) {
            return text.equals("true");
        }
        return Integer.valueOf(text);
    }
}
