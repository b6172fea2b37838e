import java.io.IOException;
import java.lang.reflect.Field;
import java.lang.reflect.Method;
import java.lang.reflect.Modifier;
import java.nio.file.Files;
import java.nio.file.Path;
import java.util.ArrayList;
import java.util.Arrays;
import java.util.List;
import java.util.Set;
import java.util.TreeSet;

/** Those rules of LANGUAGE.md that can be seen from the source or the compiled classes. Runs in the project's folder. */
public final class RulesTest {
    private static final Path SOURCE = Path.of("src/main/java/SealedStore.java");
    private static final List<String> NOT_THERE = List.of("import ", "package ", "try ", "catch ", "throw ", "finally",
        "->", "::", "synchronized", "assert ", "static {", "@Suppress", "System.out", "System.exit", "Exact(", ".equals(");

    public static void main(String[] args) throws IOException {
        Due due = new Due("RulesTest");
        source(due);
        List<Class<?>> classes = new ArrayList<>(List.of(SealedStore.class));
        classes.addAll(Arrays.asList(SealedStore.class.getDeclaredClasses()));
        due.is("classes, some twelve", classes.size() <= 13, true);
        Set<String> face = new TreeSet<>();
        for (Method method : SealedStore.class.getDeclaredMethods()) {
            if (Modifier.isPublic(method.getModifiers())) {
                face.add(method.getName());
            }
        }
        for (Class<?> type : classes) {
            methods(due, type, face);
            fields(due, type);
        }
        due.end();
    }

    private static void source(Due due) throws IOException {
        int number = 0;
        for (String line : Files.readAllLines(SOURCE)) {
            number++;
            String code = line.strip();
            if (code.startsWith("*") || code.startsWith("/")) {
                continue;
            }
            for (String word : NOT_THERE) {
                due.is("line " + number + " has " + word, code.contains(word), false);
            }
            due.is("line " + number + " has only ASCII", code.chars().allMatch(c -> c < 128), true);
        }
    }

    private static void methods(Due due, Class<?> type, Set<String> face) {
        for (Method method : type.getDeclaredMethods()) {
            due.is(method + " has at most seven parameters", method.getParameterCount() <= 7, true);
            boolean hides = !Modifier.isPublic(method.getModifiers()) && face.contains(method.getName());
            due.is(method + " bears a name of the face", hides, false);
        }
    }

    private static void fields(Due due, Class<?> type) {
        int own = 0;
        for (Field field : type.getDeclaredFields()) {
            boolean isStatic = Modifier.isStatic(field.getModifiers());
            own += isStatic ? 0 : 1;
            due.is(field + " is final", !isStatic || Modifier.isFinal(field.getModifiers()), true);
        }
        due.is(type + " has some twenty fields", own <= 20, true);
    }
}
