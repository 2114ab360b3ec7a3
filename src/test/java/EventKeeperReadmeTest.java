import java.io.IOException;
import java.lang.reflect.InvocationTargetException;
import java.lang.reflect.Method;
import java.lang.reflect.Modifier;
import java.nio.file.Files;
import java.nio.file.Path;
import java.util.ArrayList;
import java.util.List;
import java.util.Set;
import java.util.TreeSet;
import java.util.regex.Matcher;
import java.util.regex.Pattern;

/** README.md: its example answers what stands behind each call, and its table has every call. */
public final class EventKeeperReadmeTest {
    private static final String EXAMPLE_BEGINS = "EventKeeper keeper = new EventKeeper();";
    private static final String EXAMPLE_ENDS = "```";
    private static final Pattern CALL = Pattern.compile("keeper\\.(\\w+)\\((.*)\\); +// (.*)");
    private static final Pattern ANSWER = Pattern.compile("(-?\\d+)(:.*)?");
    private static final Pattern THROWS = Pattern.compile("throws (\\w+)(:.*)?");
    private static final Pattern ROW = Pattern.compile("\\| `(\\w+)\\((.*)\\)` \\|.*");
    private static final Checks c = new Checks();

    public static void main(String[] args) throws IOException {
        List<String> lines = Files.readAllLines(Path.of("README.md"));
        exampleAnswers(lines);
        tableHasEveryCall(lines);
        c.end();
    }

    private static void exampleAnswers(List<String> lines) {
        c.sentence("README.md", "An example; behind each call that answers stands its answer");
        EventKeeper keeper = new EventKeeper();
        for (String line : exampleOf(lines)) {
            Matcher call = CALL.matcher(line);
            boolean read = call.matches();
            c.compare("a call with a comment: " + line, "true", "" + read);
            if (read) {
                Method method = methodNamed(call.group(1));
                c.compare(line, due(method, call.group(3)), outcome(keeper, method, parts(call.group(2))));
            }
        }
    }

    private static List<String> exampleOf(List<String> lines) {
        int begin = lines.indexOf(EXAMPLE_BEGINS) + 1;
        List<String> rest = lines.subList(begin, lines.size());
        return begin == 0 ? List.of() : rest.subList(0, rest.indexOf(EXAMPLE_ENDS));
    }

    private static List<String> parts(String arguments) {
        List<String> all = new ArrayList<>();
        for (String part : arguments.split(",")) {
            if (!part.isBlank()) {
                all.add(part.trim());
            }
        }
        return all;
    }

    private static Method methodNamed(String name) {
        for (Method m : EventKeeper.class.getDeclaredMethods()) {
            if (Modifier.isPublic(m.getModifiers()) && m.getName().equals(name)) {
                return m;
            }
        }
        throw new IllegalArgumentException("README.md names a call that is not there: " + name);
    }

    private static String due(Method method, String comment) {
        Matcher refused = THROWS.matcher(comment);
        if (refused.matches()) {
            return refused.group(1);
        }
        if (method.getReturnType() == void.class) {
            return "nothing";
        }
        Matcher answer = ANSWER.matcher(comment);
        return answer.matches() ? answer.group(1) : "an answer in the comment";
    }

    private static String outcome(EventKeeper keeper, Method method, List<String> arguments) {
        Class<?>[] types = method.getParameterTypes();
        Object[] values = new Object[arguments.size()];
        for (int i = 0; i < values.length; i++) {
            long v = Long.parseLong(arguments.get(i));
            if (types[i] == int.class) {
                values[i] = (int) v;
            } else {
                values[i] = v;
            }
        }
        try {
            Object answer = method.invoke(keeper, values);
            return answer == null ? "nothing" : answer.toString();
        } catch (InvocationTargetException e) {
            return e.getCause().getClass().getSimpleName();
        } catch (IllegalAccessException e) {
            return "not to be called";
        }
    }

    private static void tableHasEveryCall(List<String> lines) {
        c.sentence("README.md", "The calls");
        Set<String> told = new TreeSet<>();
        for (String line : lines) {
            Matcher row = ROW.matcher(line);
            if (row.matches()) {
                told.add(row.group(1) + " of " + parts(row.group(2)).size());
            }
        }
        Set<String> face = new TreeSet<>();
        for (Method m : EventKeeper.class.getDeclaredMethods()) {
            if (Modifier.isPublic(m.getModifiers())) {
                face.add(m.getName() + " of " + m.getParameterCount());
            }
        }
        c.compare("the calls and how many arguments each takes", face.toString(), told.toString());
    }
}
