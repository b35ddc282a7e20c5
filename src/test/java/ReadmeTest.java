import java.io.IOException;
import java.lang.reflect.InvocationTargetException;
import java.lang.reflect.Method;
import java.nio.file.Files;
import java.nio.file.Path;
import java.util.regex.Matcher;
import java.util.regex.Pattern;

/** The example of README.md: each line's last call answers the number behind its slashes. */
public final class ReadmeTest {
    private static final Pattern EXAMPLE = Pattern.compile("```java\n(.*?)```", Pattern.DOTALL);
    private static final Pattern CALL = Pattern.compile("x\\.(\\w+)\\(([^)]*)\\);");
    private static final Pattern DUE = Pattern.compile("// (-?\\d+)");

    public static void main(String[] args) throws IOException, ReflectiveOperationException {
        Check check = new Check();
        check.promise("README.md");
        Matcher example = EXAMPLE.matcher(Files.readString(Path.of("README.md")));
        check.due("there is an example", example.find());
        TandemRide x = new TandemRide();
        int answers = 0;
        for (String line : example.group(1).split("\n")) {
            Matcher call = CALL.matcher(line);
            Matcher due = DUE.matcher(line);
            long answer = 0;
            while (call.find()) answer = ask(x, call.group(1), call.group(2));
            if (!due.find()) continue;
            check.due(line, answer, Long.parseLong(due.group(1)));
            answers++;
        }
        check.due("answers in the example: " + answers, answers > 20);
        check.end("ReadmeTest");
    }

    private static long ask(TandemRide x, String name, String numbers) throws ReflectiveOperationException {
        String[] parts = numbers.isEmpty() ? new String[0] : numbers.split(", ");
        Object[] values = new Object[parts.length];
        for (int i = 0; i < parts.length; i++) values[i] = numberOf(parts[i]);
        for (Method call : TandemRide.class.getMethods()) {
            if (!call.getName().equals(name) || call.getParameterCount() != values.length) continue;
            try {
                return ((Number) call.invoke(x, values)).longValue();
            } catch (InvocationTargetException e) {
                throw new IllegalStateException(name + "(" + numbers + ") throws", e.getCause());
            }
        }
        throw new IllegalStateException("there is no call " + name + "(" + numbers + ")");
    }

    /** A number, or the code of a sign in quotes. */
    private static Integer numberOf(String text) {
        return text.startsWith("'") ? Integer.valueOf(text.charAt(1)) : Integer.valueOf(text);
    }
}
