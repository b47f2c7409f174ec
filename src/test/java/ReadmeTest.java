import java.io.IOException;
import java.lang.reflect.InvocationTargetException;
import java.lang.reflect.Method;
import java.nio.file.Files;
import java.nio.file.Path;
import java.util.Set;
import java.util.TreeSet;
import java.util.regex.Matcher;
import java.util.regex.Pattern;

/** Makes every call of README.md's Java lines and holds the answer against the one that is told behind it. */
public final class ReadmeTest {
    private static final Pattern MAKE = Pattern.compile(
        "AgedMarks x = new AgedMarks\\((-?\\d+), (-?\\d+)\\); +// GAP (\\d+), RICH (\\d+)");
    private static final Pattern CALL = Pattern.compile(
        "x\\.(\\w+)\\(([-\\d, ]*)\\); +// (?:throws (\\w+)|(-?\\d+)): .+");
    private static final Check check = new Check();
    private static final Set<String> called = new TreeSet<>();
    private static AgedMarks x;

    public static void main(String[] args) throws IOException, ReflectiveOperationException {
        boolean inJava = false;
        for (String line : Files.readAllLines(Path.of("README.md"))) {
            if (line.startsWith("```")) {
                inJava = line.equals("```java");
            } else if (inJava) {
                follow(line);
            }
        }
        check.dueTexts("what README.md's lines call", called.toString(),
            "[back, count, cut, go, holder, mark, run, worst]");
        check.finish();
    }

    private static void follow(String line) throws ReflectiveOperationException {
        Matcher make = MAKE.matcher(line);
        Matcher call = CALL.matcher(line);
        if (make.matches()) {
            x = made(make.group(1), make.group(2));
            dueSame(line, made(make.group(1), make.group(2)), made(make.group(3), make.group(4)));
        } else if (call.matches() && x != null) {
            check.dueTexts(line, answer(call.group(1), call.group(2)),
                call.group(3) != null ? call.group(3) : call.group(4));
            called.add(call.group(1));
        } else {
            check.due("a line that can be followed: " + line, false);
        }
    }

    private static AgedMarks made(String gap, String rich) {
        return new AgedMarks(Integer.parseInt(gap), Integer.parseInt(rich));
    }

    /** GAP and RICH are asked by no call, but after a long run they show in all that an object tells. */
    private static void dueSame(String line, AgedMarks given, AgedMarks told) {
        given.run(4000);
        told.run(4000);
        check.dueTexts(line, Check.state(given), Check.state(told));
    }

    private static String answer(String name, String list) throws ReflectiveOperationException {
        String[] texts = list.isEmpty() ? new String[0] : list.split(", ");
        for (Method m : AgedMarks.class.getMethods()) {
            if (m.getName().equals(name) && m.getParameterCount() == texts.length) {
                return answer(m, texts);
            }
        }
        return "no call of the face";
    }

    private static String answer(Method m, String[] texts) throws ReflectiveOperationException {
        Object[] arguments = new Object[texts.length];
        for (int a = 0; a < texts.length; a++) {
            if (m.getParameterTypes()[a] == long.class) {
                arguments[a] = Long.parseLong(texts[a]);
            } else {
                arguments[a] = Integer.parseInt(texts[a]);
            }
        }
        try {
            return m.invoke(x, arguments).toString();
        } catch (InvocationTargetException e) {
            return e.getCause().getClass().getSimpleName();
        }
    }
}
