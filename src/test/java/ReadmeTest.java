import java.io.IOException;
import java.lang.reflect.Method;
import java.lang.reflect.Modifier;
import java.nio.file.Files;
import java.nio.file.Path;
import java.util.regex.Matcher;
import java.util.regex.Pattern;

/** What README.md shows: its calls are made, and each answers what stands behind it. */
public final class ReadmeTest {
    private static final Pattern SHOWN = Pattern.compile("x\\.(\\w+)\\(([^)]*)\\); +// (-?\\d+)(:.*)?");

    public static void main(String[] args) throws IOException, ReflectiveOperationException {
        String readme = Files.readString(Path.of("README.md"));
        String[] example = between(readme, "```java\n", "```").split("\n");
        Due.is("the first line makes x", 1, example[0].equals("HistogramPlans x = new HistogramPlans();") ? 1 : 0);
        HistogramPlans x = new HistogramPlans();
        for (int i = 1; i < example.length; i++) {
            make(x, example[i]);
        }
        String table = between(readme, "## The calls\n", "A text for");
        for (Method method : HistogramPlans.class.getDeclaredMethods()) {
            if (Modifier.isPublic(method.getModifiers())) {
                int first = table.indexOf("`" + method.getName() + "`");
                int last = table.lastIndexOf("`" + method.getName() + "`");
                Due.is("the table of calls has " + method.getName() + " once", 1, first >= 0 && first == last ? 1 : 0);
            }
        }
        Due.end("ReadmeTest");
    }

    private static String between(String text, String start, String end) {
        int from = text.indexOf(start) + start.length();
        return text.substring(from, text.indexOf(end, from));
    }

    private static void make(HistogramPlans x, String shown) throws ReflectiveOperationException {
        Matcher matcher = SHOWN.matcher(shown);
        Due.is("a call with its answer: " + shown, 1, matcher.matches() ? 1 : 0);
        if (!matcher.matches()) {
            return;
        }
        String[] told = matcher.group(2).isEmpty() ? new String[0] : matcher.group(2).split(", ");
        Method method = methodOf(matcher.group(1));
        Object[] arguments = new Object[told.length];
        for (int i = 0; i < told.length; i++) {
            int v = told[i].equals("HistogramPlans.NONE") ? HistogramPlans.NONE : Integer.parseInt(told[i]);
            if (method.getParameterTypes()[i] == long.class) {
                arguments[i] = (long) v;
            } else {
                arguments[i] = v;
            }
        }
        long answer = ((Number) method.invoke(x, arguments)).longValue();
        Due.is(shown, Long.parseLong(matcher.group(3)), answer);
    }

    private static Method methodOf(String name) {
        for (Method method : HistogramPlans.class.getDeclaredMethods()) {
            if (Modifier.isPublic(method.getModifiers()) && method.getName().equals(name)) {
                return method;
            }
        }
        throw new IllegalStateException("no such call: " + name);
    }
}
