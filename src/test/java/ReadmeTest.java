import java.io.IOException;
import java.lang.reflect.InvocationTargetException;
import java.lang.reflect.Method;
import java.nio.file.Files;
import java.nio.file.Path;
import java.util.regex.Matcher;
import java.util.regex.Pattern;

/** The examples of README.md: every call in them answers what the comment behind it says. */
final class ReadmeTest {
    private static final Pattern WRITE = Pattern.compile("write\\(desk, \"(.*)\"\\);");
    private static final Pattern CALL = Pattern.compile("desk\\.(\\w+)\\(([^)]*)\\); +// (throws \\w+|-?\\w+)(: \\S+)?.*");
    private static final int FEWEST_CALLS = 15;

    private final Check check = new Check();
    private ProofDesk desk = new ProofDesk();
    private int calls;

    public static void main(String[] args) throws IOException, ReflectiveOperationException {
        ReadmeTest test = new ReadmeTest();
        boolean inside = false;
        for (String row : Files.readAllLines(Path.of("README.md"))) {
            if (row.startsWith("```")) {
                inside = row.equals("```java");
            } else if (inside) {
                test.play(row);
            }
        }
        test.check.is("enough calls in README.md", test.calls >= FEWEST_CALLS, true);
        test.check.end();
    }

    private void play(String row) throws ReflectiveOperationException {
        Matcher write = WRITE.matcher(row);
        Matcher call = CALL.matcher(row);
        if (row.equals("ProofDesk desk = new ProofDesk();")) {
            desk = new ProofDesk();
        } else if (write.matches()) {
            Check.write(desk, write.group(1));
        } else if (call.matches()) {
            calls++;
            String got = answer(call.group(1), call.group(2));
            check.is(row, got, call.group(3));
            if (call.group(4) != null && got.equals(call.group(3))) {
                check.is(row, ": " + Check.text(desk, Integer.parseInt(got)), call.group(4));
            }
        } else {
            check.is(row, "a row that can't be played", "one that can");
        }
    }

    private String answer(String name, String given) throws ReflectiveOperationException {
        String[] parts = given.isEmpty() ? new String[0] : given.split(", ");
        Class<?>[] types = new Class<?>[parts.length];
        Object[] values = new Object[parts.length];
        for (int at = 0; at < parts.length; at++) {
            types[at] = int.class;
            values[at] = Integer.parseInt(parts[at]);
        }
        Method method = ProofDesk.class.getMethod(name, types);
        try {
            return "" + method.invoke(desk, values);
        } catch (InvocationTargetException e) {
            return "throws " + e.getCause().getClass().getSimpleName();
        }
    }
}
