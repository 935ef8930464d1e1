import java.io.IOException;
import java.lang.reflect.InvocationTargetException;
import java.lang.reflect.Method;
import java.nio.file.Files;
import java.nio.file.Path;
import java.util.HashMap;
import java.util.Map;
import java.util.Set;
import java.util.TreeSet;
import java.util.regex.Matcher;
import java.util.regex.Pattern;

/** README.md shows every call of the class, and its examples answer what it says behind "->". */
public final class ReadmeTest {
    private static final Pattern BLOCK = Pattern.compile("(?s)```java\n(.*?)```");
    private static final Pattern LINE = Pattern.compile("(?:int (\\w) = )?x\\.(\\w+)\\(([^)]*)\\);(?:\\s*//(?: -> (true|false|-?\\d+))?.*)?");
    private static final String MADE = "PulseBoard x = new PulseBoard();";
    private static int wrong = 0;
    private static int answers = 0;

    private PulseBoard x = new PulseBoard();
    private final Map<String, Integer> names = new HashMap<>();
    private final Set<String> shown = new TreeSet<>();

    public static void main(String[] args) throws IOException, ReflectiveOperationException {
        ReadmeTest test = new ReadmeTest();
        Matcher block = BLOCK.matcher(Files.readString(Path.of("README.md")));
        while (block.find()) test.runLines(block.group(1));
        for (Method method : PulseBoard.class.getMethods()) {
            boolean own = method.getDeclaringClass() == PulseBoard.class;
            if (own && !test.shown.contains(method.getName())) fail("README.md doesn't show " + method.getName());
        }
        if (answers == 0) fail("README.md tells no answer");
        System.out.println(wrong == 0 ? answers + " answers of README.md hold" : wrong + " faults in README.md");
        if (wrong != 0) System.exit(1);
    }

    private static void fail(String what) {
        wrong++;
        System.out.println(what);
    }

    private void runLines(String block) throws ReflectiveOperationException {
        for (String line : block.split("\n")) {
            Matcher call = LINE.matcher(line);
            if (line.startsWith(MADE)) x = new PulseBoard();
            else if (call.matches()) runCall(line, call);
            else if (!line.isBlank()) fail("not a call: " + line);
        }
    }

    private void runCall(String line, Matcher call) throws ReflectiveOperationException {
        Object answer = answer(call.group(2), call.group(3));
        if (call.group(1) != null) names.put(call.group(1), (Integer) answer);
        if (call.group(4) == null) return;
        answers++;
        if (!call.group(4).equals(String.valueOf(answer))) fail(line + " answered " + answer);
    }

    private Object answer(String name, String told) throws ReflectiveOperationException {
        shown.add(name);
        String[] parts = told.isBlank() ? new String[0] : told.split(", ");
        Object[] numbers = new Object[parts.length];
        for (int n = 0; n < parts.length; n++) {
            numbers[n] = names.containsKey(parts[n]) ? names.get(parts[n]) : Integer.valueOf(parts[n]);
        }
        for (Method method : PulseBoard.class.getMethods()) {
            if (method.getName().equals(name)) return invoked(method, numbers);
        }
        fail("no such call: " + name);
        return null;
    }

    private Object invoked(Method method, Object[] numbers) throws ReflectiveOperationException {
        try {
            return method.invoke(x, numbers);
        } catch (InvocationTargetException thrown) {
            fail(method.getName() + " threw " + thrown.getCause());
            return null;
        }
    }
}
