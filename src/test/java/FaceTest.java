import java.lang.reflect.Constructor;
import java.lang.reflect.Field;
import java.lang.reflect.Method;
import java.lang.reflect.Modifier;
import java.util.Arrays;
import java.util.List;
import java.util.Set;
import java.util.TreeSet;

/** The public face: exactly the constructor and the methods of the document, with their exceptions in its order. */
public final class FaceTest {
    private static final Due due = new Due("FaceTest");
    private static final List<String> FACE = List.of(
            "int kind(int, int, char, char) IllegalArgumentException IllegalStateException",
            "boolean rule(int, char, boolean) IndexOutOfBoundsException IllegalArgumentException",
            "boolean holds(int, char) IndexOutOfBoundsException IllegalArgumentException",
            "int copy(int) IndexOutOfBoundsException IllegalStateException",
            "int unlike(int, int) IndexOutOfBoundsException",
            "int parent(int) IndexOutOfBoundsException NoSuchElementException",
            "int start(int) IndexOutOfBoundsException",
            "int give(int, int) IllegalStateException IndexOutOfBoundsException IllegalArgumentException "
                    + "UnsupportedOperationException",
            "int move(int) IllegalStateException IndexOutOfBoundsException UnsupportedOperationException",
            "char barred(int) IllegalStateException IndexOutOfBoundsException",
            "int moves() IllegalStateException",
            "int undo() UnsupportedOperationException",
            "int seeds(int) IllegalStateException IndexOutOfBoundsException",
            "int store(int) IllegalStateException IndexOutOfBoundsException",
            "int turn() IllegalStateException",
            "boolean isOver() IllegalStateException",
            "int winner() IllegalStateException NoSuchElementException",
            "int laps() IllegalStateException NoSuchElementException",
            "int length() IllegalStateException",
            "int times() IllegalStateException",
            "long many(int, int) IllegalArgumentException",
            "long number() IllegalStateException",
            "int inRow(int, int, long, int) IllegalArgumentException IndexOutOfBoundsException",
            "int value(int) IllegalStateException IllegalArgumentException",
            "int best(int) IllegalStateException IllegalArgumentException NoSuchElementException",
            "int blunder(int, int) IllegalStateException IndexOutOfBoundsException IllegalArgumentException "
                    + "UnsupportedOperationException",
            "boolean isPuzzle(int) IllegalStateException IllegalArgumentException",
            "int play(int, char) IndexOutOfBoundsException IllegalArgumentException",
            "int type(int) IllegalArgumentException IllegalStateException",
            "int wipe()",
            "int explains(int) IndexOutOfBoundsException",
            "int explainer() NoSuchElementException",
            "int line() IllegalStateException",
            "char sign(int) IllegalStateException NoSuchElementException",
            "long checksum()",
            "float freeShare() IllegalStateException",
            "double meanUnlike() ArithmeticException",
            "boolean isSound()");

    public static void main(String[] args) {
        due.is("modifiers", Modifier.toString(Sowingcourt.class.getModifiers()), "public final");
        Set<String> found = new TreeSet<>();
        Set<String> hidden = new TreeSet<>();
        for (Method method : Sowingcourt.class.getDeclaredMethods()) {
            if (Modifier.isPrivate(method.getModifiers())) {
                hidden.add(method.getName());
            } else {
                due.is("modifiers of " + method.getName(), Modifier.toString(method.getModifiers()), "public");
                found.add(told(method));
            }
        }
        due.is("the face", String.join("\n", found), String.join("\n", new TreeSet<>(FACE)));
        for (String face : FACE) {
            String name = face.substring(face.indexOf(' ') + 1, face.indexOf('('));
            due.is("a private method of the name " + name, hidden.contains(name), false);
        }
        for (Field field : Sowingcourt.class.getDeclaredFields()) {
            due.is("private field " + field.getName(), Modifier.isPrivate(field.getModifiers()), true);
        }
        Constructor<?>[] constructors = Sowingcourt.class.getDeclaredConstructors();
        due.is("constructors", constructors.length, 1);
        due.is("the constructor", constructors[0].toString(), "public Sowingcourt()");
        due.end();
    }

    private static String told(Method method) {
        StringBuilder text = new StringBuilder(method.getReturnType().getSimpleName());
        text.append(' ').append(method.getName()).append('(');
        text.append(String.join(", ", Arrays.stream(method.getParameterTypes()).map(Class::getSimpleName).toList()));
        text.append(')');
        for (Class<?> thrown : method.getExceptionTypes()) {
            text.append(' ').append(thrown.getSimpleName());
        }
        return text.toString();
    }
}
