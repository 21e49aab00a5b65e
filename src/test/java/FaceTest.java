import java.lang.reflect.Constructor;
import java.lang.reflect.Field;
import java.lang.reflect.Method;
import java.lang.reflect.Modifier;
import java.util.Arrays;
import java.util.Set;
import java.util.TreeSet;

/** The public face: it is the document's, and nothing of the class is seen beside it. */
public final class FaceTest {
    private static final String[] FACE = {
        "boolean bar(int, char, char) IndexOutOfBoundsException IllegalArgumentException UnsupportedOperationException",
        "boolean dead(int, char, char) IndexOutOfBoundsException IllegalArgumentException UnsupportedOperationException",
        "int align(int, int, int, int) IndexOutOfBoundsException IllegalArgumentException NoSuchElementException",
        "int solder(int) IndexOutOfBoundsException NoSuchElementException",
        "int speed(int, int, int) IndexOutOfBoundsException IllegalArgumentException NoSuchElementException",
        "int wear(int) IndexOutOfBoundsException NoSuchElementException",
        "int carriage(int, int) IllegalArgumentException",
        "int escapeBits()",
        "int rest()",
        "int margins(int, int, int) IllegalArgumentException",
        "boolean release()",
        "int rings()",
        "boolean stop(int, boolean) IllegalArgumentException",
        "int tab() NoSuchElementException",
        "int decimal(int) IllegalArgumentException NoSuchElementException",
        "int space() IllegalStateException UnsupportedOperationException",
        "int half() IllegalStateException UnsupportedOperationException",
        "int back() UnsupportedOperationException",
        "int home() UnsupportedOperationException",
        "int roll(int) IllegalArgumentException UnsupportedOperationException",
        "int lines(int) IllegalArgumentException",
        "int column()",
        "int ribbon(int) IllegalArgumentException",
        "char colour(char) IllegalArgumentException",
        "int ink(int, char) IndexOutOfBoundsException IllegalArgumentException",
        "int cell()",
        "boolean shift(boolean)",
        "int level(int) IllegalArgumentException",
        "char strike(int, int) IndexOutOfBoundsException IllegalArgumentException NoSuchElementException"
                + " UnsupportedOperationException",
        "boolean free()",
        "int now()",
        "int page()",
        "int marks()",
        "int mark(int, char) IndexOutOfBoundsException IllegalArgumentException",
        "int pitch() NoSuchElementException",
        "char cause(char) NoSuchElementException",
        "int sample() IllegalStateException",
        "int likenessBits(int) IndexOutOfBoundsException",
        "int whose() NoSuchElementException",
        "float printShare() ArithmeticException",
        "long meanWearBits() ArithmeticException",
        "long checksum()",
        "boolean isTrue()",
    };

    public static void main(String[] args) {
        Class<?> face = TypebarWorks.class;
        Check.same("public and final", face.getModifiers(), Modifier.PUBLIC | Modifier.FINAL);
        Set<String> seen = new TreeSet<>();
        Set<String> names = new TreeSet<>();
        for (Method method : face.getDeclaredMethods()) {
            if (Modifier.isPublic(method.getModifiers())) {
                seen.add(textOf(method));
                names.add(method.getName());
            }
        }
        Set<String> due = new TreeSet<>(Arrays.asList(FACE));
        for (String text : due) {
            Check.same("the face has " + text, seen.contains(text), true);
        }
        for (String text : seen) {
            Check.same("the document has " + text, due.contains(text), true);
        }
        hidden(face, names);
        for (Class<?> inside : face.getDeclaredClasses()) {
            Check.same(inside + " is static", Modifier.isStatic(inside.getModifiers()), true);
            Check.same(inside + " is hidden", Modifier.isPublic(inside.getModifiers()), false);
            for (Method method : inside.getDeclaredMethods()) {
                Check.same(method + " bears a public name", names.contains(method.getName()), false);
            }
        }
        Check.end();
    }

    private static void hidden(Class<?> face, Set<String> names) {
        for (Method method : face.getDeclaredMethods()) {
            if (!Modifier.isPublic(method.getModifiers())) {
                Check.same(method + " is private", Modifier.isPrivate(method.getModifiers()), true);
                Check.same(method + " bears a public name", names.contains(method.getName()), false);
            }
        }
        for (Field field : face.getDeclaredFields()) {
            Check.same(field + " is private", Modifier.isPrivate(field.getModifiers()), true);
            boolean isState = Modifier.isStatic(field.getModifiers()) && !Modifier.isFinal(field.getModifiers());
            Check.same(field + " is static state", isState, false);
        }
        Check.same("constructors", face.getDeclaredConstructors().length, 1);
        for (Constructor<?> made : face.getDeclaredConstructors()) {
            Check.same(made + " is public", Modifier.isPublic(made.getModifiers()), true);
            Check.same(made + " takes nothing", made.getParameterCount(), 0);
        }
    }

    private static String textOf(Method method) {
        StringBuilder text = new StringBuilder();
        text.append(method.getReturnType().getSimpleName()).append(' ').append(method.getName()).append('(');
        for (int index = 0; index < method.getParameterCount(); index++) {
            text.append(index == 0 ? "" : ", ").append(method.getParameterTypes()[index].getSimpleName());
        }
        text.append(')');
        for (Class<?> kind : method.getExceptionTypes()) {
            text.append(' ').append(kind.getSimpleName());
        }
        return text.toString();
    }
}
