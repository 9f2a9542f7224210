import java.lang.reflect.Constructor;
import java.lang.reflect.Field;
import java.lang.reflect.Member;
import java.lang.reflect.Method;
import java.lang.reflect.Modifier;
import java.util.Arrays;
import java.util.List;
import java.util.TreeSet;

/** The public face of the document, and what LANGUAGE.md asks of members and fields. */
public final class FaceTest {
    private static final String[] FACE = {
        "boolean plug(int, int, int, int, int, int, int) IndexOutOfBoundsException IllegalArgumentException",
        "int date(int, int, int) IndexOutOfBoundsException ArithmeticException",
        "int fixed(int, int, int, int) IndexOutOfBoundsException ArithmeticException IllegalArgumentException",
        "boolean leap(int, int) UnsupportedOperationException IndexOutOfBoundsException IllegalArgumentException"
            + " ArithmeticException",
        "int onOrBefore(int, int) IllegalArgumentException ArithmeticException",
        "int rounds(int)",
        "int meeting(int, int, int)",
        "int feast(int, int) IndexOutOfBoundsException ArithmeticException",
        "int when(int, int, int, int, int) IndexOutOfBoundsException ArithmeticException",
        "int write(int, int) IndexOutOfBoundsException ArithmeticException",
        "boolean type(char)",
        "int wipe()",
        "char letter(int)",
        "int read(int) IndexOutOfBoundsException IllegalArgumentException",
    };

    public static void main(String[] args) {
        Check check = new Check();
        check.says("The public face");
        Class<?> book = DayBook.class;
        check.due("public and final", book.getModifiers(), Modifier.PUBLIC | Modifier.FINAL);
        check.due("NONE", DayBook.NONE, Integer.MIN_VALUE);

        TreeSet<String> face = new TreeSet<>();
        TreeSet<String> faceNames = new TreeSet<>();
        for (Method m : book.getDeclaredMethods()) {
            if (Modifier.isPublic(m.getModifiers())) {
                face.add(told(m));
                faceNames.add(m.getName());
            } else {
                onlyPrivate(check, m);
            }
        }
        check.due("the face", face.toString(), new TreeSet<>(List.of(FACE)).toString());

        Constructor<?>[] constructors = book.getDeclaredConstructors();
        check.due("constructors", constructors.length, 1);
        check.due("public constructor", constructors[0].getModifiers(), Modifier.PUBLIC);
        check.due("its arguments", constructors[0].getParameterCount(), 0);

        for (Field f : book.getDeclaredFields()) {
            if (!f.getName().equals("NONE")) {
                onlyPrivate(check, f);
            }
        }
        inside(check, book, faceNames);
        for (Class<?> c : book.getDeclaredClasses()) {
            check.due(c + " is static", Modifier.isStatic(c.getModifiers()), true);
            check.due(c + " is not public", Modifier.isPublic(c.getModifiers()), false);
            inside(check, c, faceNames);
        }
        check.end();
    }

    private static void onlyPrivate(Check check, Member m) {
        check.due(m + " is private", Modifier.isPrivate(m.getModifiers()), true);
    }

    private static void inside(Check check, Class<?> c, TreeSet<String> faceNames) {
        for (Field f : c.getDeclaredFields()) {
            boolean wrong = Modifier.isStatic(f.getModifiers()) && !Modifier.isFinal(f.getModifiers());
            check.due(f + " is static state", wrong, false);
        }
        for (Method m : c.getDeclaredMethods()) {
            boolean isFace = c == DayBook.class && Modifier.isPublic(m.getModifiers());
            check.due(m + " bears a public name", !isFace && faceNames.contains(m.getName()), false);
            check.due(m + " has more than seven parameters", m.getParameterCount() > 7, false);
        }
    }

    private static String told(Method m) {
        String parameters = Arrays.toString(m.getParameterTypes()).replace("[", "(").replace("]", ")");
        StringBuilder s = new StringBuilder(m.getReturnType() + " " + m.getName() + parameters);
        for (Class<?> e : m.getExceptionTypes()) {
            s.append(" ").append(e.getSimpleName());
        }
        return s.toString();
    }
}
