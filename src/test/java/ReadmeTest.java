import java.io.IOException;
import java.lang.reflect.Method;
import java.nio.file.Files;
import java.nio.file.Path;
import java.util.regex.Matcher;
import java.util.regex.Pattern;

/** Makes the calls of the example in README.md, and compares the answers with the numbers that stand behind them. */
public final class ReadmeTest {
    private static final Pattern CALL = Pattern.compile(" {4}x\\.(\\w+)\\(([^)]*)\\); +// (-?\\d+).*");

    private static Object value(String text) {
        if (text.startsWith("'")) {
            return text.charAt(1);
        }
        return Integer.parseInt(text);
    }

    private static Object answer(PatternSequencer x, String name, String arguments)
            throws ReflectiveOperationException {
        String[] texts = arguments.isEmpty() ? new String[0] : arguments.split(", ");
        Object[] values = new Object[texts.length];
        for (int k = 0; k < texts.length; k++) {
            values[k] = value(texts[k]);
        }
        for (Method method : PatternSequencer.class.getMethods()) {
            if (method.getName().equals(name) && method.getParameterCount() == values.length) {
                return method.invoke(x, values);
            }
        }
        return "no such method";
    }

    public static void main(String[] arguments) throws IOException, ReflectiveOperationException {
        PatternSequencer x = new PatternSequencer();
        int calls = 0;
        int wrong = 0;
        for (String line : Files.readAllLines(Path.of("README.md"))) {
            Matcher call = CALL.matcher(line);
            if (call.matches()) {
                calls++;
                Object got = answer(x, call.group(1), call.group(2));
                if (!call.group(3).equals(String.valueOf(got))) {
                    wrong++;
                    System.out.println(line.trim() + " answered " + got);
                }
            } else if (line.startsWith("    x.")) {
                wrong++;
                System.out.println(line.trim() + " has no answer behind it");
            }
        }
        System.out.println("README.md: " + calls + " calls, " + wrong + " faults");
        if (wrong != 0 || calls == 0) {
            System.exit(1);
        }
    }
}
