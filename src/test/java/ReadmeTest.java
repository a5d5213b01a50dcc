import java.io.IOException;
import java.lang.reflect.InvocationTargetException;
import java.lang.reflect.Method;
import java.nio.file.Files;
import java.nio.file.Path;
import java.util.regex.Matcher;
import java.util.regex.Pattern;

/** The calls that README.md shows, from its top down on one object: each answers what stands behind it. */
public final class ReadmeTest {
    private static final Checks checks = new Checks();
    private static final Pattern SHOWN = Pattern.compile("bars\\.(\\w+)\\(([^)]*)\\); +// (throws \\w+|-?\\w+).*");

    public static void main(String[] args) throws IOException, ReflectiveOperationException {
        DrawingBars bars = new DrawingBars();
        boolean inCode = false;
        int shown = 0;
        for (String line : Files.readAllLines(Path.of(args.length > 0 ? args[0] : ".", "README.md"))) {
            if (line.startsWith("```")) {
                inCode = line.equals("```java");
            } else if (inCode && !line.equals("DrawingBars bars = new DrawingBars();")) {
                Matcher call = SHOWN.matcher(line);
                checks.same("a call and its answer: " + line, call.matches(), true);
                if (call.matches()) {
                    String got = outcome(bars, call.group(1), call.group(2));
                    checks.same(line + " answered " + got + ": as shown", got.equals(number(call.group(3))), true);
                    shown++;
                }
            }
        }
        checks.same("calls are shown", shown > 40, true);
        checks.end();
    }

    private static String number(String shown) {
        return shown.equals("NONE") ? "" + DrawingBars.NONE : shown.equals("VOID") ? "" + DrawingBars.VOID : shown;
    }

    private static String outcome(DrawingBars bars, String name, String told) throws ReflectiveOperationException {
        String[] numbers = told.isEmpty() ? new String[0] : told.split(", ");
        Class<?>[] kinds = new Class<?>[numbers.length];
        Object[] given = new Object[numbers.length];
        for (int i = 0; i < numbers.length; i++) {
            kinds[i] = int.class;
            given[i] = Integer.decode(numbers[i]);
        }
        Method method = DrawingBars.class.getMethod(name, kinds);
        try {
            return String.valueOf(method.invoke(bars, given));
        } catch (InvocationTargetException e) {
            return "throws " + e.getCause().getClass().getSimpleName();
        }
    }
}
