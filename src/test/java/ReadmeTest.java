import java.io.IOException;
import java.lang.reflect.InvocationTargetException;
import java.lang.reflect.Method;
import java.nio.file.Files;
import java.nio.file.Path;
import java.util.regex.Matcher;
import java.util.regex.Pattern;

/** The calls that README.md shows, one behind the other, answer what it says behind each. */
public final class ReadmeTest {
    private static final Pattern CALL =
            Pattern.compile("chart\\.(\\w+)\\(([-\\d, ]*)\\); +// (throws \\w+|true|false|-?\\d+)\\b.*");

    private ReadmeTest() {}

    public static void main(String[] args) throws IOException {
        OrielChart chart = new OrielChart();
        boolean isShown = false;
        int calls = 0;
        for (String line : Files.readAllLines(Path.of("README.md"))) {
            if (line.startsWith("```")) {
                isShown = line.equals("```java");
            } else if (isShown && line.startsWith("chart.")) {
                look(chart, line);
                calls++;
            }
        }
        Check.same("README.md shows calls", calls > 0, true);
        Check.finish();
    }

    private static void look(OrielChart chart, String line) {
        Matcher call = CALL.matcher(line);
        if (call.matches()) {
            String[] told = call.group(2).isEmpty() ? new String[0] : call.group(2).split(", ");
            Check.same(line, answer(chart, call.group(1), told), call.group(3));
        } else {
            Check.miss("no call with its answer: " + line);
        }
    }

    private static String answer(OrielChart chart, String name, String[] told) {
        Class<?>[] types = new Class<?>[told.length];
        Object[] values = new Object[told.length];
        for (int i = 0; i < told.length; i++) {
            types[i] = int.class;
            values[i] = Integer.valueOf(told[i]);
        }
        try {
            Method method = OrielChart.class.getMethod(name, types);
            return String.valueOf(method.invoke(chart, values));
        } catch (InvocationTargetException e) {
            return "throws " + e.getCause().getClass().getSimpleName();
        } catch (NoSuchMethodException | IllegalAccessException e) {
            return "no such call";
        }
    }
}
