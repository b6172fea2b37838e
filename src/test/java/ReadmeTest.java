import java.io.IOException;
import java.lang.reflect.Method;
import java.lang.reflect.Modifier;
import java.nio.file.Files;
import java.nio.file.Path;
import java.util.List;
import java.util.regex.Matcher;
import java.util.regex.Pattern;

/** README.md: its calls answer what stands behind them, and it tells every call of the face. Runs in the project's folder. */
public final class ReadmeTest {
    private static final Pattern MADE = Pattern.compile("SealedStore x = new SealedStore\\((.*)\\);");
    private static final Pattern CALL = Pattern.compile("x\\.(\\w+)\\((.*)\\); +// ([-\\w]+)(: .*)?");

    private final Due due;
    private SealedStore x;
    private int calls;

    private ReadmeTest(Due due) {
        this.due = due;
    }

    public static void main(String[] args) throws IOException, ReflectiveOperationException {
        Due due = new Due("ReadmeTest");
        List<String> lines = Files.readAllLines(Path.of("README.md"));
        new ReadmeTest(due).play(lines);
        tellsTheFace(due, lines);
        due.end();
    }

    private void play(List<String> lines) throws ReflectiveOperationException {
        boolean code = false;
        for (String line : lines) {
            if (line.startsWith("```")) {
                code = line.equals("```java");
            } else if (code) {
                playLine(line);
            }
        }
        due.is("calls were found", calls > 50, true);
    }

    private void playLine(String line) throws ReflectiveOperationException {
        Matcher made = MADE.matcher(line);
        if (made.matches()) {
            String[] numbers = made.group(1).split(", ");
            x = new SealedStore(Integer.parseInt(numbers[0]), Integer.parseInt(numbers[1]), Integer.parseInt(numbers[2]));
            return;
        }
        Matcher call = CALL.matcher(line);
        due.is("\"" + line + "\" can be read", call.matches(), true);
        if (call.matches()) {
            calls++;
            due.is(line, answer(call.group(1), call.group(2).split(", ")), call.group(3));
        }
    }

    private String answer(String name, String[] words) throws ReflectiveOperationException {
        for (Method method : SealedStore.class.getMethods()) {
            if (method.getName().equals(name) && method.getParameterCount() == words.length) {
                Object[] arguments = new Object[words.length];
                for (int i = 0; i < words.length; i++) {
                    arguments[i] = argument(method.getParameterTypes()[i], words[i]);
                }
                return String.valueOf(method.invoke(x, arguments));
            }
        }
        return "no such call";
    }

    private static Object argument(Class<?> type, String word) {
        if (type == boolean.class) {
            return Boolean.valueOf(word);
        }
        if (type == long.class) {
            return Long.valueOf(word);
        }
        return Integer.valueOf(word);
    }

    /** Each call has its row, with as many names in it as it has parameters, and an example. */
    private static void tellsTheFace(Due due, List<String> lines) {
        for (Method method : SealedStore.class.getDeclaredMethods()) {
            if (!Modifier.isPublic(method.getModifiers())) {
                continue;
            }
            String name = method.getName();
            String names = "\\w+(, \\w+){" + (method.getParameterCount() - 1) + "}";
            String row = "\\| `" + name + "\\(" + names + "\\)` \\| .+ \\| .+ \\|";
            due.is(name + " has a row", lines.stream().filter(line -> line.matches(row)).count(), 1);
            due.is(name + " has an example", lines.stream().anyMatch(line -> line.startsWith("x." + name + "(")), true);
        }
    }
}
