import java.io.IOException;
import java.lang.reflect.Field;
import java.lang.reflect.Method;
import java.lang.reflect.Modifier;
import java.nio.file.Files;
import java.nio.file.Path;
import java.util.Set;
import java.util.TreeSet;
import java.util.regex.Matcher;
import java.util.regex.Pattern;

/** The public face of the document, and the rules of LANGUAGE.md that can be seen from outside. */
public final class FaceTest {
    private static final Due DUE = new Due();
    private static final Set<String> CONSTANTS = Set.of(
        "OUTSIDE=-1", "FULL=-2", "STATE=-3", "NONE=-4", "FAILED=-10", "TIRED=-11");
    private static final Set<String> METHODS = Set.of(
        "vial[int, int]", "batch[int, int]", "round[int, int]", "step[int, int, int]", "tool[int, int]",
        "lay[int, int]", "about[int, int]", "places[int]", "box[int]", "run[int, int, boolean]", "why[int]",
        "told[int]", "trace[int]", "noted[int]", "drops[int]", "sum[]");
    private static final Pattern REFUSED = Pattern.compile(
        "\\b(throw|throws|try|catch|finally|synchronized|assert|import|package)\\b|->|::|\\w+Exact\\b");

    public static void main(String[] args) throws IllegalAccessException, IOException {
        DUE.due("the class is public and final", BenchRuns.class.getModifiers(), Modifier.PUBLIC | Modifier.FINAL);
        DUE.due("one public constructor", BenchRuns.class.getConstructors().length, 1);
        DUE.due("no other constructor", BenchRuns.class.getDeclaredConstructors().length, 1);
        constants();
        methods();
        nestedClasses();
        refusedWords();
        DUE.end();
    }

    private static void constants() throws IllegalAccessException {
        Set<String> found = new TreeSet<>();
        for (Field field : BenchRuns.class.getDeclaredFields()) {
            int modifiers = field.getModifiers();
            if (Modifier.isStatic(modifiers)) {
                DUE.due(field.getName() + " is final", Modifier.isFinal(modifiers) ? 1 : 0, 1);
            }
            if (Modifier.isPublic(modifiers)) {
                found.add(field.getName() + "=" + field.getInt(null));
            } else {
                DUE.due(field.getName() + " is private", Modifier.isPrivate(modifiers) ? 1 : 0, 1);
            }
        }
        DUE.due("the constants are " + found, found.equals(CONSTANTS) ? 1 : 0, 1);
    }

    private static void methods() {
        Set<String> found = new TreeSet<>();
        Set<String> hidden = new TreeSet<>();
        for (Method method : BenchRuns.class.getDeclaredMethods()) {
            if (Modifier.isPublic(method.getModifiers())) {
                found.add(signature(method));
                DUE.due(method.getName() + " answers int", method.getReturnType() == int.class ? 1 : 0, 1);
            } else {
                hidden.add(method.getName());
                DUE.due(method.getName() + " is private", Modifier.isPrivate(method.getModifiers()) ? 1 : 0, 1);
            }
        }
        DUE.due("the methods are " + found, found.equals(METHODS) ? 1 : 0, 1);
        for (String name : hidden) {
            long same = METHODS.stream().filter(m -> m.startsWith(name + "[")).count();
            DUE.due("private " + name + " has a public method's name", (int) same, 0);
        }
    }

    private static String signature(Method method) {
        StringBuilder text = new StringBuilder(method.getName()).append('[');
        for (Class<?> type : method.getParameterTypes()) {
            text.append(text.charAt(text.length() - 1) == '[' ? "" : ", ").append(type.getName());
        }
        return text.append(']').toString();
    }

    private static void nestedClasses() {
        for (Class<?> nested : BenchRuns.class.getDeclaredClasses()) {
            DUE.due(nested.getName() + " is static", Modifier.isStatic(nested.getModifiers()) ? 1 : 0, 1);
            DUE.due(nested.getName() + " is private", Modifier.isPrivate(nested.getModifiers()) ? 1 : 0, 1);
        }
    }

    private static void refusedWords() throws IOException {
        String source = Files.readString(Path.of("src/main/java/BenchRuns.java"));
        String code = source.replaceAll("(?s)/\\*.*?\\*/", "").replaceAll("//.*", "");
        Matcher matcher = REFUSED.matcher(code);
        DUE.due("a refused word stands in the class", matcher.find() ? 1 : 0, 0);
    }
}
