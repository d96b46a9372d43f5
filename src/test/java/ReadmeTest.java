import java.io.File;
import java.io.IOException;
import java.nio.file.Files;
import java.nio.file.Path;
import java.util.List;
import java.util.Set;
import java.util.TreeSet;
import java.util.regex.Matcher;
import java.util.regex.Pattern;

/** README.md: its examples are run as they stand there, and its table names every test. */
public final class ReadmeTest {
    private static final Due DUE = new Due("ReadmeTest");
    private static final Pattern CALL = Pattern.compile("ship\\.(\\w+)\\((.*)\\); +// (-?\\d+).*");
    private static final Pattern ROW_OF_TABLE = Pattern.compile("\\| `(\\w+Test)` \\|.*");

    public static void main(String[] args) throws IOException, ReflectiveOperationException {
        List<String> lines = Files.readAllLines(Path.of("README.md"));
        examples(lines);
        table(lines);
        DUE.close();
    }

    private static void examples(List<String> lines) throws ReflectiveOperationException {
        WhaleLays ship = new WhaleLays();
        int calls = 0;
        for (String line : lines) {
            Matcher call = CALL.matcher(line);
            if (call.matches()) {
                DUE.is(line, answer(ship, call.group(1), call.group(2)), Long.parseLong(call.group(3)));
                calls++;
            } else {
                DUE.that("a call without its answer: " + line, !line.startsWith("ship."));
            }
        }
        DUE.that("there are examples", calls > 0);
    }

    private static long answer(WhaleLays ship, String name, String told) throws ReflectiveOperationException {
        String[] parts = told.isEmpty() ? new String[0] : told.split(", ");
        Class<?>[] kinds = new Class<?>[parts.length];
        Object[] numbers = new Object[parts.length];
        for (int i = 0; i < parts.length; i++) {
            kinds[i] = int.class;
            numbers[i] = Integer.decode(parts[i]);
        }
        return ((Number) WhaleLays.class.getMethod(name, kinds).invoke(ship, numbers)).longValue();
    }

    private static void table(List<String> lines) {
        Set<String> named = new TreeSet<>();
        for (String line : lines) {
            Matcher row = ROW_OF_TABLE.matcher(line);
            if (row.matches()) {
                named.add(row.group(1));
            }
        }
        Set<String> there = new TreeSet<>();
        String[] files = new File("src/test/java").list();
        for (String file : files == null ? new String[0] : files) {
            if (file.endsWith("Test.java")) {
                there.add(file.substring(0, file.length() - ".java".length()));
            }
        }
        DUE.same("the tests of the table", named.toString(), there.toString());
    }
}
