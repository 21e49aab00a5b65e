import java.io.IOException;
import java.lang.reflect.Field;
import java.lang.reflect.Method;
import java.lang.reflect.Modifier;
import java.nio.file.Files;
import java.nio.file.Path;
import java.util.ArrayList;
import java.util.List;
import java.util.regex.Matcher;
import java.util.regex.Pattern;

/** Rules of ../shared/LANGUAGE.md, by their numbers, as far as they can be seen from the text of the class. */
public final class LanguageTest {
    private static final Path FILE = Path.of("src/main/java/TypebarWorks.java");

    public static void main(String[] args) throws IOException {
        String text = Files.readString(FILE);
        String code = text.replaceAll("(?s)/\\*.*?\\*/", "").replaceAll("//[^\n]*", "");
        signs(text);
        imports(code);
        words(code);
        library(code);
        fields();
        exceptions(code);
        sizes(code);
        Check.end();
    }

    private static List<String> found(String pattern, String code) {
        List<String> all = new ArrayList<>();
        Matcher matcher = Pattern.compile(pattern).matcher(code);
        while (matcher.find()) {
            all.add(matcher.group());
        }
        return all;
    }

    private static void none(String rule, String pattern, String code) {
        Check.text("rule " + rule, String.join(", ", found(pattern, code)), "");
    }

    private static void signs(String text) {
        none("3: signs of texts", "[^\\x00-\\x7f]", text);
    }

    private static void imports(String code) {
        none("the first lines: a package", "(?m)^package .*", code);
        none("4: imports", "(?m)^import (?!java\\.util\\.(ArrayList|Arrays|Iterator|List|NoSuchElementException);).*",
                code);
        none("4: names of other packages", "(?<!import )\\bjava\\.\\w+", code);
    }

    private static void words(String code) {
        none("2: lambdas and method references", "->|::", code);
        none("6: words", "\\b(finally|synchronized|assert)\\b|\\btry\\s*\\(", code);
        none("10: joining texts by +", "\"\\s*\\+|\\+\\s*\"", code);
        none("9: loops without a bound", "while\\s*\\(\\s*true|for\\s*\\(\\s*;\\s*;", code);
    }

    private static void library(String code) {
        StringBuilder own = new StringBuilder("TypebarWorks");
        for (Class<?> inside : TypebarWorks.class.getDeclaredClasses()) {
            own.append('|').append(inside.getSimpleName());
        }
        String listed = "(Math|Integer|Long)\\.(abs|min|max|compare|bitCount|floorDiv|floorMod)\\("
                + "|System\\.arraycopy\\(|Arrays\\.(copyOf|copyOfRange|fill)\\(|List\\.of\\(";
        none("4: what is called of other classes",
                "\\b(?!" + listed + "|(" + own + ")\\.)[A-Z]\\w*[a-z]\\w*\\.\\w+", code);
    }

    private static void fields() {
        List<Class<?>> all = new ArrayList<>(List.of(TypebarWorks.class.getDeclaredClasses()));
        Check.same("rule 11: classes, " + all.size(), all.size() <= 12, true);
        all.add(TypebarWorks.class);
        for (Class<?> one : all) {
            int number = 0;
            for (Field field : one.getDeclaredFields()) {
                boolean isStatic = Modifier.isStatic(field.getModifiers());
                number += isStatic ? 0 : 1;
                boolean isConstant = Modifier.isFinal(field.getModifiers()) && isForConstants(field.getType());
                Check.same("rule 5: " + field, !isStatic || isConstant, true);
            }
            Check.same("rule 11: fields of " + one + ", " + number, number <= 20, true);
            for (Method method : one.getDeclaredMethods()) {
                Check.same("rule 11: parameters of " + method, method.getParameterCount() <= 7, true);
            }
        }
    }

    private static boolean isForConstants(Class<?> type) {
        return type.isPrimitive() || type == String.class || type.isArray() && type.getComponentType().isPrimitive();
    }

    private static void exceptions(String code) {
        String kinds = "(IllegalState|IllegalArgument|IndexOutOfBounds|Arithmetic|UnsupportedOperation|NoSuchElement)";
        none("6: other exceptions", "\\bthrow\\b(?! new " + kinds + "Exception\\(\"[^\"+]*\"\\);).*", code);
        none("6: what is caught", "\\bcatch\\b(?! \\(" + kinds + "Exception \\w+\\)).*", code);
        none("5: static initialisers", "\\bstatic\\s*\\{", code);
    }

    /** Methods begin and end at one depth of a class, so that their lines can be counted. */
    private static void sizes(String code) {
        for (String depth : List.of("    ", "        ")) {
            String method = "(?m)^" + depth + "(?! )[^\\n;=]*\\([^;{]*\\{\\n(?s:.*?)^" + depth + "\\}$";
            for (String body : found(method, code)) {
                int lines = body.split("\n").length;
                Check.same("rule 11: lines of " + body.split("\n")[0].trim() + ", " + lines, lines <= 60, true);
            }
        }
    }
}
