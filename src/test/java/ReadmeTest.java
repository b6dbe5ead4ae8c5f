import java.io.IOException;
import java.lang.reflect.InvocationTargetException;
import java.lang.reflect.Method;
import java.lang.reflect.Modifier;
import java.nio.file.Files;
import java.nio.file.Path;
import java.util.Arrays;
import java.util.HashSet;
import java.util.List;
import java.util.Set;
import java.util.regex.Matcher;
import java.util.regex.Pattern;

/** The example in README.md: each line answers what the README says, and no call is left out. */
public final class ReadmeTest {
    private static final String NEW_MESH = "RankMesh mesh = new RankMesh();";
    private static final Pattern LINE = Pattern.compile(
            "mesh\\.(\\w+)\\(([-0-9, ]*)\\);(?: +// (throws \\w+|-?\\d+)?.*)?");

    private final Set<String> called = new HashSet<>();
    private RankMesh mesh = null;

    public static void main(String[] args) throws IOException {
        new ReadmeTest().run(Files.readAllLines(Path.of("README.md")));
        Checks.end();
    }

    private void run(List<String> readme) {
        int begin = readme.indexOf("```java");
        List<String> rest = readme.subList(begin + 1, readme.size());
        for (String line : rest.subList(0, rest.indexOf("```"))) {
            if (line.startsWith(NEW_MESH)) {
                mesh = new RankMesh();
            } else if (!line.isEmpty()) {
                call(line);
            }
        }
        for (Method method : RankMesh.class.getDeclaredMethods()) {
            if (isPublic(method) && !called.contains(method.getName())) {
                Checks.report("the README has no " + method.getName());
            }
        }
    }

    private void call(String line) {
        Matcher parts = LINE.matcher(line);
        if (!parts.matches()) {
            Checks.report("the README has a line that is no call: " + line);
            return;
        }
        called.add(parts.group(1));
        String answer = answer(parts.group(1), numbers(parts.group(2)));
        String said = parts.group(3) == null ? "" : parts.group(3);
        Checks.due("answer of " + line, said, answer);
    }

    /** Empty for a call that answers nothing. */
    private String answer(String name, Object[] numbers) {
        for (Method method : RankMesh.class.getDeclaredMethods()) {
            if (isPublic(method) && method.getName().equals(name)) {
                try {
                    Object answer = method.invoke(mesh, numbers);
                    return answer == null ? "" : answer.toString();
                } catch (InvocationTargetException e) {
                    return "throws " + e.getCause().getClass().getSimpleName();
                } catch (IllegalAccessException e) {
                    return e.toString();
                }
            }
        }
        return "no such call";
    }

    private static boolean isPublic(Method method) {
        return Modifier.isPublic(method.getModifiers());
    }

    private static Object[] numbers(String text) {
        return text.isEmpty() ? new Object[0]
                : Arrays.stream(text.split(", ")).map(Integer::valueOf).toArray();
    }
}
