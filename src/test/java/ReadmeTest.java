import java.io.IOException;
import java.lang.reflect.InvocationTargetException;
import java.lang.reflect.Method;
import java.lang.reflect.Modifier;
import java.nio.file.Files;
import java.nio.file.Path;
import java.util.Set;
import java.util.TreeSet;
import java.util.regex.Matcher;
import java.util.regex.Pattern;

/** Makes the calls of README.md's examples: each must answer what stands behind it, up to a colon. */
public final class ReadmeTest {
    private static final Pattern CALL = Pattern.compile("x\\.(\\w+)\\((.*)\\); +// ([^:]+)(:.*)?");
    private static final String NEW = "FrameWalk x = new FrameWalk();";
    private static final String NOTHING = "as at first";

    private final Set<String> called = new TreeSet<>();
    private FrameWalk x;

    public static void main(String[] args) throws IOException {
        ReadmeTest test = new ReadmeTest();
        boolean isExample = false;
        for (String line : Files.readAllLines(Path.of("README.md"))) {
            if (line.startsWith("```")) {
                isExample = line.equals("```java");
            } else if (isExample && !line.isEmpty()) {
                test.make(line);
            }
        }
        test.lookForAllMethods();
        Check.end("ReadmeTest");
    }

    private void make(String line) {
        if (line.equals(NEW)) {
            x = new FrameWalk();
            return;
        }
        Matcher parts = CALL.matcher(line);
        if (!parts.matches()) {
            Check.due(line, "a call and its answer", "something else");
            return;
        }
        called.add(parts.group(1));
        Check.due(line, parts.group(3), answer(parts.group(1), parts.group(2)));
    }

    private String answer(String name, String told) {
        String[] words = told.isEmpty() ? new String[0] : told.split(", ");
        Object[] values = new Object[words.length];
        Class<?>[] types = new Class<?>[words.length];
        for (int i = 0; i < words.length; i++) {
            boolean isBoolean = words[i].equals("true") || words[i].equals("false");
            types[i] = isBoolean ? boolean.class : int.class;
            values[i] = isBoolean ? (Object) Boolean.valueOf(words[i]) : (Object) Integer.valueOf(words[i]);
        }
        try {
            Object answer = FrameWalk.class.getMethod(name, types).invoke(x, values);
            return answer == null ? NOTHING : String.valueOf(answer);
        } catch (InvocationTargetException e) {
            return "throws " + e.getCause().getClass().getSimpleName();
        } catch (ReflectiveOperationException e) {
            return "no such call";
        }
    }

    private void lookForAllMethods() {
        for (Method m : FrameWalk.class.getDeclaredMethods()) {
            if (Modifier.isPublic(m.getModifiers())) {
                Check.due("README.md shows " + m.getName(), true, called.contains(m.getName()));
            }
        }
    }
}
