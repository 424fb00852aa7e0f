import java.io.IOException;
import java.lang.reflect.InvocationTargetException;
import java.lang.reflect.Method;
import java.nio.file.Files;
import java.nio.file.Path;
import java.util.Set;
import java.util.TreeSet;
import java.util.regex.Matcher;
import java.util.regex.Pattern;

/** The calls that README.md shows, one after the other on one object, answer what stands behind them. */
public final class ReadmeTest {
    private static final Pattern CALL = Pattern.compile("books\\.(\\w+)\\((.*?)\\);\\s*// (-?\\d+)\\b.*");
    private static final Due DUE = new Due("ReadmeTest");

    private ReadmeTest() {
    }

    public static void main(String[] args) throws IOException, IllegalAccessException {
        BeesBooks books = new BeesBooks();
        int calls = 0;
        for (String line : Files.readAllLines(Path.of("README.md"))) {
            Matcher matcher = CALL.matcher(line);
            if (matcher.matches()) {
                DUE.is(line, answer(books, matcher.group(1), matcher.group(2)), Long.parseLong(matcher.group(3)));
                calls++;
            } else {
                DUE.holds("a call with its answer: " + line, !line.startsWith("books."));
            }
        }
        DUE.holds("calls are shown", calls > 0);
        everyTestIsNamed();
        DUE.end();
    }

    private static long answer(BeesBooks books, String name, String arguments) throws IllegalAccessException {
        String[] parts = arguments.isEmpty() ? new String[0] : arguments.split(", ");
        for (Method method : BeesBooks.class.getMethods()) {
            if (!method.getName().equals(name) || method.getParameterCount() != parts.length) {
                continue;
            }
            Object[] values = new Object[parts.length];
            for (int i = 0; i < parts.length; i++) {
                long value = parts[i].startsWith("'") ? parts[i].charAt(1) : Long.parseLong(parts[i]);
                values[i] = method.getParameterTypes()[i] == long.class ? (Object) value : (Object) (int) value;
            }
            try {
                return ((Number) method.invoke(books, values)).longValue();
            } catch (InvocationTargetException e) {
                throw new IllegalStateException(name + " threw", e.getCause());
            }
        }
        throw new IllegalStateException("no call " + name);
    }

    /** README.md tells of each test class, the Boundary tests by the name that they share. */
    private static void everyTestIsNamed() throws IOException {
        String text = Files.readString(Path.of("README.md"));
        Set<String> names = new TreeSet<>();
        try (var files = Files.list(Path.of("src/test/java"))) {
            files.forEach(file -> names.add(file.getFileName().toString().replace(".java", "")));
        }
        for (String name : names) {
            if (name.endsWith("Test") && !name.startsWith("Boundary")) {
                DUE.holds(name + " is named", text.contains("`" + name + "`"));
            }
        }
    }
}
