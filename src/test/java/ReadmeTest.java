import java.io.IOException;
import java.lang.reflect.Method;
import java.lang.reflect.Modifier;
import java.nio.file.Files;
import java.nio.file.Path;
import java.util.List;
import java.util.Set;
import java.util.TreeSet;
import java.util.regex.Matcher;
import java.util.regex.Pattern;

/** The example of README.md uses every call of the face, and each answers as its comment says. */
final class ReadmeTest {
    private static final Pattern CALL =
        Pattern.compile("driver\\.(\\w+)\\(([^)]*)\\); +// (-?\\d+|true|false)\\b.*");

    private final RingDriver driver = new RingDriver();
    private final Set<String> used = new TreeSet<>();

    public static void main(String[] args) throws IOException, ReflectiveOperationException {
        List<String> lines = Files.readAllLines(Path.of("README.md"));
        int start = lines.indexOf("```java") + 1;
        int end = start + lines.subList(start, lines.size()).indexOf("```");
        ReadmeTest test = new ReadmeTest();
        for (String line : lines.subList(start, end)) {
            test.follow(line);
        }
        Check.due("calls in the example " + test.used, test.used.equals(face()), true);
        Check.end();
    }

    private void follow(String line) throws ReflectiveOperationException {
        Matcher call = CALL.matcher(line);
        if (call.matches()) {
            String got = String.valueOf(answer(call.group(1), call.group(2)));
            Check.due(line + " (it answered " + got + ")", got.equals(call.group(3)), true);
            used.add(call.group(1));
            return;
        }
        boolean noCall = line.isEmpty() || line.startsWith("// ")
            || line.equals("RingDriver driver = new RingDriver();");
        Check.due("a line without a call and its answer: " + line, noCall, true);
    }

    private Object answer(String name, String arguments) throws ReflectiveOperationException {
        String[] words = arguments.isEmpty() ? new String[0] : arguments.split(", ");
        Class<?>[] types = new Class<?>[words.length];
        Object[] numbers = new Object[words.length];
        for (int i = 0; i < words.length; i++) {
            types[i] = int.class;
            numbers[i] = Integer.valueOf(words[i]);
        }
        return RingDriver.class.getMethod(name, types).invoke(driver, numbers);
    }

    private static Set<String> face() {
        Set<String> names = new TreeSet<>();
        for (Method method : RingDriver.class.getDeclaredMethods()) {
            if (Modifier.isPublic(method.getModifiers())) {
                names.add(method.getName());
            }
        }
        return names;
    }
}
