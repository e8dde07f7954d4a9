import java.io.IOException;
import java.lang.reflect.InvocationTargetException;
import java.lang.reflect.Method;
import java.nio.file.Files;
import java.nio.file.Path;
import java.util.regex.Matcher;
import java.util.regex.Pattern;

/** The calls of README.md's example answer what its comments say. */
public final class ReadmeTests {
    private static final Pattern CALL =
        Pattern.compile("house\\.(\\w+)\\((.*?)\\);\\s+// (true|false|-?\\d+)\\b.*");
    private static final int LEAST_CALLS = 20;

    public static void main(String[] args) throws IOException, ReflectiveOperationException {
        CarryHouse house = new CarryHouse();
        int calls = 0;
        for (String line : Files.readAllLines(Path.of("README.md"))) {
            if (line.startsWith("house.")) {
                Matcher matcher = CALL.matcher(line);
                boolean told = matcher.matches();
                Check.due("README.md tells the answer of " + line, told, true);
                if (told) {
                    String got = answer(house, matcher.group(1), matcher.group(2));
                    Check.due("README.md: " + line + " (got " + got + ")", got.equals(matcher.group(3)), true);
                    calls++;
                }
            }
        }
        Check.due("README.md has an example", calls >= LEAST_CALLS, true);
        Check.finish("ReadmeTests");
    }

    private static String answer(CarryHouse house, String name, String written)
            throws IllegalAccessException, InvocationTargetException {
        String[] texts = written.isEmpty() ? new String[0] : written.split(", ");
        Object[] values = new Object[texts.length];
        for (int i = 0; i < texts.length; i++) {
            boolean truth = texts[i].equals("true") || texts[i].equals("false");
            values[i] = truth ? (Object) Boolean.valueOf(texts[i]) : (Object) Integer.decode(texts[i]);
        }
        for (Method method : CarryHouse.class.getMethods()) {
            if (method.getName().equals(name) && method.getParameterCount() == values.length) {
                return String.valueOf(method.invoke(house, values));
            }
        }
        return "no such call";
    }
}
