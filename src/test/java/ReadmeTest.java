import java.io.IOException;
import java.lang.reflect.InvocationTargetException;
import java.lang.reflect.Method;
import java.lang.reflect.Modifier;
import java.nio.file.Files;
import java.nio.file.Path;
import java.util.regex.Matcher;
import java.util.regex.Pattern;

/** The example of README.md answers what it says there: each call's due answer is the first word of its comment. */
public final class ReadmeTest {
    private static final Path README = Path.of("README.md");
    private static final String NEW_OBJECT = "OutStation station = new OutStation();";
    private static final Pattern CALL = Pattern.compile("station\\.(\\w+)\\(([^()]*)\\);(?:\\s+// ([-\\w]+).*)?");

    public static void main(String[] args) {
        Check.run(ReadmeTest.class);
    }

    @Holds("An outstation between a field and two masters: points and events, frames with sums, parts that make fragments,"
        + " requests answered with data and signs, events that stay until they are confirmed, outputs that are selected"
        + " before they are operated, and the same points for the other master's plain questions.")
    static void theExample(Check check) throws IOException, IllegalAccessException {
        OutStation station = null;
        for (String line : exampleOf(Files.readString(README)).split("\n")) {
            Matcher call = CALL.matcher(line);
            if (line.equals(NEW_OBJECT)) {
                station = new OutStation();
            } else if (call.matches()) {
                String due = call.group(3) == null ? "null" : call.group(3);
                String answer = answerOf(station, call.group(1), call.group(2).split(", "));
                check.due(line + " (answered " + answer + ")", sameAnswer(answer, due));
            } else {
                check.due("\"" + line + "\" is a comment or empty", line.isEmpty() || line.startsWith("// "));
            }
        }
    }

    @Holds("The public face")
    static void theTableHasEveryCall(Check check) throws IOException {
        String readme = Files.readString(README);
        for (Method method : OutStation.class.getDeclaredMethods()) {
            if (Modifier.isPublic(method.getModifiers())) {
                check.due(method.getName() + " has a row", readme.contains("\n| `" + method.getName() + "("));
            }
        }
    }

    private static String exampleOf(String readme) {
        String start = "```java\n";
        int from = readme.indexOf(start) + start.length();
        return readme.substring(from, readme.indexOf("\n```", from));
    }

    private static boolean sameAnswer(String answer, String due) {
        return answer.equals(due.matches("-?\\d.*") ? Long.decode(due).toString() : due);
    }

    /** An answer, "null" for none, or the name of what was thrown. */
    private static String answerOf(OutStation station, String name, String[] words) throws IllegalAccessException {
        for (Method method : OutStation.class.getDeclaredMethods()) {
            if (method.getName().equals(name) && method.getParameterCount() == words.length) {
                try {
                    return String.valueOf(method.invoke(station, arguments(method.getParameterTypes(), words)));
                } catch (InvocationTargetException e) {
                    return e.getCause().getClass().getSimpleName();
                }
            }
        }
        return "no such call";
    }

    private static Object[] arguments(Class<?>[] types, String[] words) {
        Object[] arguments = new Object[words.length];
        for (int i = 0; i < words.length; i++) {
            if (types[i] == long.class) {
                arguments[i] = Long.parseUnsignedLong(words[i].replaceAll("^0x|L$", ""), 16);
            } else {
                arguments[i] = Integer.decode(words[i]);
            }
        }
        return arguments;
    }
}
