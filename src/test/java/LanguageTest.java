import java.io.IOException;
import java.lang.reflect.Field;
import java.lang.reflect.Method;
import java.lang.reflect.Modifier;
import java.nio.file.Files;
import java.nio.file.Path;
import java.util.ArrayList;
import java.util.Arrays;
import java.util.List;

/** Some rules of LANGUAGE.md that the program shows; the path of its text is the first argument. */
public final class LanguageTest {
    private static final Due due = new Due("LanguageTest");
    private static final int MOST_LINES_OF_A_METHOD = 60;
    private static final int MOST_PARAMETERS = 7;
    private static final int MOST_FIELDS = 20;
    private static final int MOST_CLASSES = 12;
    private static final List<String> FORBIDDEN = List.of("->", "::", "finally", "try", "synchronized", "assert ", "@",
            "Exact(", "System.out", "package ", "volatile", "native ", "Object", "toString(", "hashCode(",
            "String.format", "Random", "nanoTime", "Thread", "float[", "static {");

    public static void main(String[] args) throws IOException {
        String text = Files.readString(Path.of(args[0]));
        String code = text.replaceAll("/\\*\\*[\\s\\S]*?\\*/", "");
        for (String word : FORBIDDEN) {
            due.is("the program holds " + word, code.contains(word), false);
        }
        due.is("imports", text.lines().filter(line -> line.startsWith("import ")).toList().toString(),
                "[import java.util.NoSuchElementException;]");
        due.is("all signs are 1 to 127", text.chars().allMatch(c -> c > 0 && c < 128), true);
        methodsAreShort(code);
        List<Class<?>> classes = new ArrayList<>(List.of(Sowingcourt.class));
        classes.addAll(Arrays.asList(Sowingcourt.class.getDeclaredClasses()));
        due.is("classes are few", classes.size() <= MOST_CLASSES, true);
        for (Class<?> each : classes) {
            classKeepsTheRules(each);
        }
        due.end();
    }

    private static void classKeepsTheRules(Class<?> each) {
        int fields = 0;
        for (Field field : each.getDeclaredFields()) {
            if (Modifier.isStatic(field.getModifiers())) {
                due.is("static field " + field + " is final", Modifier.isFinal(field.getModifiers()), true);
            } else {
                fields++;
            }
        }
        due.is("fields of " + each.getSimpleName() + " are few", fields <= MOST_FIELDS, true);
        for (Method method : each.getDeclaredMethods()) {
            due.is("parameters of " + method + " are few", method.getParameterCount() <= MOST_PARAMETERS, true);
        }
        if (each != Sowingcourt.class) {
            due.is(each.getSimpleName() + " is static", Modifier.isStatic(each.getModifiers()), true);
            due.is(each.getSimpleName() + " is not public", Modifier.isPublic(each.getModifiers()), false);
        }
    }

    /** A method begins with a brace on a line that is indented by 4 or 8, and ends with one indented likewise. */
    private static void methodsAreShort(String code) {
        String end = null;
        int lines = 0;
        for (String line : code.lines().toList()) {
            if (end == null && line.endsWith("{") && line.matches(" {4,16}\\S.*") && !line.contains("class ")) {
                end = line.startsWith("        ") && !line.contains("throws") ? "        }" : "    }";
                lines = 0;
            }
            lines++;
            if (line.equals(end)) {
                due.is("a method of " + lines + " lines is short", lines <= MOST_LINES_OF_A_METHOD, true);
                end = null;
            }
        }
        due.is("the last method has an end", end == null, true);
    }
}
