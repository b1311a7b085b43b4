import java.io.IOException;
import java.lang.reflect.Method;
import java.nio.file.Files;
import java.nio.file.Path;
import java.util.regex.Matcher;
import java.util.regex.Pattern;

/** Makes the calls of README.md's example, and asks for the answers that it tells. */
public final class ReadmeTest {
    private static final Due DUE = new Due();
    private static final Pattern CALL = Pattern.compile("bench\\.(\\w+)\\((.*)\\); +// (-?\\d+): .*");

    public static void main(String[] args) throws IOException, ReflectiveOperationException {
        BenchRuns bench = new BenchRuns();
        for (String line : exampleLines()) {
            Matcher call = CALL.matcher(line);
            if (call.matches()) {
                DUE.due(line, answer(bench, call.group(1), call.group(2)), Integer.parseInt(call.group(3)));
            } else {
                DUE.due(line + " can be read", line.equals("BenchRuns bench = new BenchRuns();") ? 1 : 0, 1);
            }
        }
        DUE.end();
    }

    private static String[] exampleLines() throws IOException {
        String readme = Files.readString(Path.of("README.md"));
        int from = readme.indexOf("```java\n") + "```java\n".length();
        return readme.substring(from, readme.indexOf("\n```", from)).split("\n");
    }

    private static int answer(BenchRuns bench, String name, String given) throws ReflectiveOperationException {
        String[] texts = given.isEmpty() ? new String[0] : given.split(", ");
        for (Method method : BenchRuns.class.getMethods()) {
            if (method.getName().equals(name) && method.getParameterCount() == texts.length) {
                return (Integer) method.invoke(bench, values(texts, method.getParameterTypes()));
            }
        }
        throw new NoSuchMethodException(name + " with " + texts.length + " numbers");
    }

    private static Object[] values(String[] texts, Class<?>[] types) {
        Object[] values = new Object[texts.length];
        for (int i = 0; i < texts.length; i++) {
            if (types[i] == boolean.class) {
                values[i] = Boolean.valueOf(texts[i]);
            } else {
                values[i] = Integer.valueOf(texts[i]);
            }
        }
        return values;
    }
}
