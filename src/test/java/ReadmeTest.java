import java.io.IOException;
import java.lang.reflect.InvocationTargetException;
import java.lang.reflect.Method;
import java.lang.reflect.Modifier;
import java.nio.file.Files;
import java.nio.file.Path;
import java.util.List;
import java.util.TreeSet;
import java.util.regex.Matcher;
import java.util.regex.Pattern;

/** Makes the calls that README.md shows, in its order, and looks whether each answers what stands behind it. */
public final class ReadmeTest {
    private static final String NEW_BOOK = "DayBook book = new DayBook();";
    private static final Pattern CALL =
        Pattern.compile("(int d = )?book\\.(\\w+)\\((.*)\\); +// ('.'|-?\\w+)(: .*)?");
    private static final Pattern TABLE_ROW =
        Pattern.compile("\\| (\\d+) \\| [^|]+ \\| ([-\\d]+)/(\\d+)/(\\d+) \\|");

    private final Check check = new Check();
    private final TreeSet<String> called = new TreeSet<>();
    private DayBook book;
    private int d;

    public static void main(String[] args) throws IOException, IllegalAccessException {
        List<String> lines = Files.readAllLines(Path.of("README.md"));
        ReadmeTest test = new ReadmeTest();
        test.calls(lines);
        test.table(lines);
        test.check.end();
    }

    private void calls(List<String> lines) throws IllegalAccessException {
        check.says("README.md: calls whose answers hold");
        boolean isJava = false;
        for (String line : lines) {
            if (line.startsWith("```")) {
                isJava = line.equals("```java");
            } else if (isJava) {
                lineOfJava(line);
            }
        }
        TreeSet<String> face = new TreeSet<>();
        for (Method m : DayBook.class.getDeclaredMethods()) {
            if (Modifier.isPublic(m.getModifiers())) {
                face.add(m.getName());
            }
        }
        check.due("the calls shown", called.toString(), face.toString());
    }

    private void lineOfJava(String line) throws IllegalAccessException {
        Matcher m = CALL.matcher(line);
        if (line.equals(NEW_BOOK)) {
            book = new DayBook();
        } else if (m.matches()) {
            called.add(m.group(2));
            String[] arguments = m.group(3).isEmpty() ? new String[0] : m.group(3).split(", ");
            check.due(line, answer(m.group(2), arguments, m.group(1) != null), m.group(4));
        } else {
            check.due("a line of README.md", line, "a call with its answer");
        }
    }

    /** What a call answers, as README.md tells it: a thrown exception by its name, a character between ' and '. */
    private String answer(String name, String[] arguments, boolean keepsDay) throws IllegalAccessException {
        for (Method m : DayBook.class.getMethods()) {
            if (m.getName().equals(name) && m.getParameterCount() == arguments.length) {
                try {
                    Object answer = m.invoke(book, values(arguments));
                    if (keepsDay) {
                        d = (Integer) answer;
                    }
                    return told(answer);
                } catch (InvocationTargetException e) {
                    return e.getCause().getClass().getSimpleName();
                }
            }
        }
        return "no such call";
    }

    private Object[] values(String[] arguments) {
        Object[] values = new Object[arguments.length];
        for (int i = 0; i < values.length; i++) {
            String a = arguments[i];
            if (a.equals("d")) {
                values[i] = d;
            } else if (a.startsWith("'")) {
                values[i] = a.charAt(1);
            } else {
                values[i] = Integer.valueOf(a);
            }
        }
        return values;
    }

    private static String told(Object answer) {
        if (answer.equals(DayBook.NONE)) {
            return "NONE";
        }
        if (answer instanceof Character c) {
            return c == 0 ? "0" : "'" + c + "'";
        }
        return answer.toString();
    }

    private void table(List<String> lines) {
        check.says("README.md: the calendars");
        int calendars = 0;
        for (String line : lines) {
            Matcher m = TABLE_ROW.matcher(line);
            if (m.matches()) {
                check.due("the number in " + line, Integer.parseInt(m.group(1)), calendars);
                for (int which = 0; which <= 2; which++) {
                    check.due(line, new DayBook().date(calendars, d, which), Integer.parseInt(m.group(2 + which)));
                }
                calendars++;
            }
        }
        check.due("calendars in the table", calendars, 12);
    }
}
