import java.io.IOException;
import java.lang.reflect.InvocationTargetException;
import java.lang.reflect.Method;
import java.lang.reflect.Modifier;
import java.nio.file.Files;
import java.nio.file.Path;
import java.util.TreeSet;
import java.util.regex.Matcher;
import java.util.regex.Pattern;

/** The README's example, call by call: each has to answer, or to throw, what stands behind it there. */
final class ReadmeTest {
    private static final Path README = Path.of("README.md");
    private static final Pattern CALL =
            Pattern.compile("watch\\.(\\w+)\\(([^)]*)\\);(?: +// (throws \\w+|[-\\w]+)(?::.*)?)?");
    private static final String MADE = "RaceWatch watch = new RaceWatch();";

    private static Method methodOf(String name) {
        for (Method m : RaceWatch.class.getDeclaredMethods()) {
            if (m.getName().equals(name)) {
                return m;
            }
        }
        throw new AssertionError("there is no " + name);
    }

    private static Object[] argumentsOf(Method m, String text) {
        String[] words = text.isEmpty() ? new String[0] : text.split(", ");
        Object[] arguments = new Object[words.length];
        for (int n = 0; n < words.length; n++) {
            boolean isFlag = m.getParameterTypes()[n] == boolean.class;
            arguments[n] = isFlag ? (Object) Boolean.valueOf(words[n]) : (Object) Integer.valueOf(words[n]);
        }
        return arguments;
    }

    /** The answer as the README writes it: nothing for a call that has none. */
    private static String answerOf(RaceWatch watch, Method m, Object[] arguments) throws IllegalAccessException {
        try {
            Object answer = m.invoke(watch, arguments);
            return answer == null ? "" : answer.toString();
        } catch (InvocationTargetException e) {
            return "throws " + e.getCause().getClass().getSimpleName();
        }
    }

    private static void example(Check check, String[] lines) throws IllegalAccessException {
        RaceWatch watch = new RaceWatch();
        TreeSet<String> missing = new TreeSet<>();
        for (Method m : RaceWatch.class.getDeclaredMethods()) {
            if (Modifier.isPublic(m.getModifiers())) {
                missing.add(m.getName());
            }
        }
        for (String line : lines) {
            Matcher call = CALL.matcher(line);
            if (call.matches()) {
                Method m = methodOf(call.group(1));
                String due = call.group(3) == null ? "" : call.group(3);
                check.due(line, answerOf(watch, m, argumentsOf(m, call.group(2))), due);
                missing.remove(m.getName());
            } else {
                check.due("a line of the example", line, MADE);
            }
        }
        check.due("calls that the example leaves out", missing.toString(), "[]");
    }

    public static void main(String[] args) throws IOException, IllegalAccessException {
        Check check = new Check();
        String text = Files.readString(README);
        int from = text.indexOf("```java\n") + "```java\n".length();
        example(check, text.substring(from, text.indexOf("```\n", from)).split("\n"));
        check.due("README.md tells of .ci/run", text.contains("```sh\n.ci/run\n```"), true);
        check.end();
    }
}
