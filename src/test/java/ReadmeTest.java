import java.io.IOException;
import java.lang.reflect.Method;
import java.lang.reflect.Modifier;
import java.nio.file.Files;
import java.nio.file.Path;
import java.util.HashMap;
import java.util.Map;
import java.util.regex.Matcher;
import java.util.regex.Pattern;

/** README.md holds: its examples answer what their comments say, and it tells of every call of the face. */
public final class ReadmeTest {
    private static final Pattern NEW_OBJECT = Pattern.compile("ForkWatch w = new ForkWatch\\(\\);.*");
    private static final Pattern CALL =
        Pattern.compile("(?:int (\\w+) = )?w\\.(\\w+)\\(([^)]*)\\);\\s*(?://\\s*(-?\\d+|true|false)\\b.*)?");

    private ForkWatch w;
    private final Map<String, Integer> names = new HashMap<>();

    public static void main(String[] args) throws IOException, ReflectiveOperationException {
        String readme = Files.readString(Path.of("README.md"));
        for (Method method : ForkWatch.class.getDeclaredMethods()) {
            if (Modifier.isPublic(method.getModifiers())) {
                String row = "\n| `" + method.getName() + "(";
                Expect.due("README.md has a row for " + method.getName(), readme.contains(row), true);
            }
        }
        int examples = 0;
        Matcher block = Pattern.compile("```java\n(.*?)```", Pattern.DOTALL).matcher(readme);
        while (block.find()) {
            new ReadmeTest().run(block.group(1));
            examples++;
        }
        Expect.due("README.md has examples", examples > 0, true);
        Expect.end();
    }

    private void run(String example) throws ReflectiveOperationException {
        for (String line : example.split("\n")) {
            Matcher call = CALL.matcher(line);
            if (NEW_OBJECT.matcher(line).matches()) {
                w = new ForkWatch();
            } else if (call.matches()) {
                long answer = answerOf(call.group(2), call.group(3));
                if (call.group(1) != null) {
                    names.put(call.group(1), (int) answer);
                }
                if (call.group(4) != null) {
                    Expect.due("README.md: " + line, answer, numberOf(call.group(4)));
                }
            } else {
                Expect.due("README.md has a line that is no call: " + line, line.isBlank(), true);
            }
        }
    }

    private long answerOf(String name, String written) throws ReflectiveOperationException {
        String[] parts = written.isEmpty() ? new String[0] : written.split(",\\s*");
        Class<?>[] types = new Class<?>[parts.length];
        Object[] arguments = new Object[parts.length];
        for (int i = 0; i < parts.length; i++) {
            types[i] = int.class;
            arguments[i] = (int) numberOf(parts[i]);
        }
        Object answer = ForkWatch.class.getMethod(name, types).invoke(w, arguments);
        return numberOf(answer.toString());
    }

    private long numberOf(String text) {
        if (names.containsKey(text)) {
            return names.get(text);
        }
        if (text.startsWith("'")) {
            return text.charAt(1);
        }
        return text.equals("true") ? 1 : text.equals("false") ? 0 : Long.parseLong(text);
    }
}
