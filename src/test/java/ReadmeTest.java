import java.io.IOException;
import java.lang.reflect.InvocationTargetException;
import java.lang.reflect.Method;
import java.nio.file.Files;
import java.nio.file.Path;
import java.util.regex.Matcher;
import java.util.regex.Pattern;

/** The calls in README.md have the answers that stand behind them, so that its examples can't grow stale. */
public final class ReadmeTest {
    private static final String MAKING = "DebugBackEnd x = new DebugBackEnd();";
    private static final Pattern CALL = Pattern.compile("x\\.(\\w+)\\(([^)]*)\\);\\s*// ([^:]+)(:.*)?");

    public static void main(String[] args) throws IOException, InvocationTargetException, IllegalAccessException {
        Check check = new Check("ReadmeTest");
        boolean inExample = false;
        DebugBackEnd x = null;
        for (String line : Files.readAllLines(Path.of("README.md"))) {
            if (line.startsWith("```")) {
                inExample = line.equals("```java");
            } else if (inExample && line.equals(MAKING)) {
                x = new DebugBackEnd();
            } else if (inExample) {
                look(check, x, line);
            }
        }
        check.end();
    }

    private static void look(Check check, DebugBackEnd x, String line)
            throws InvocationTargetException, IllegalAccessException {
        check.part(line);
        Matcher call = CALL.matcher(line);
        boolean isCall = call.matches();
        check.due("is a call with its answer", isCall ? 1 : 0, 1);
        if (isCall) {
            check.due(call.group(1), answer(x, call.group(1), call.group(2)), number(call.group(3).trim()));
        }
    }

    private static long answer(DebugBackEnd x, String name, String arguments)
            throws InvocationTargetException, IllegalAccessException {
        for (Method method : DebugBackEnd.class.getMethods()) {
            if (method.getName().equals(name)) {
                return ((Number) method.invoke(x, values(arguments))).longValue();
            }
        }
        throw new IllegalArgumentException("no method " + name);
    }

    private static Object[] values(String arguments) {
        if (arguments.isEmpty()) {
            return new Object[0];
        }
        String[] texts = arguments.split(", ");
        Object[] values = new Object[texts.length];
        for (int i = 0; i < texts.length; i++) {
            boolean isTruth = texts[i].equals("true") || texts[i].equals("false");
            values[i] = isTruth ? (Object) Boolean.valueOf(texts[i]) : (Object) Integer.valueOf(texts[i]);
        }
        return values;
    }

    private static long number(String text) {
        if (text.startsWith("REFERENCE + ")) {
            return DebugBackEnd.REFERENCE + Long.parseLong(text.substring(12));
        }
        switch (text) {
            case "REFUSED": return DebugBackEnd.REFUSED;
            case "GONE": return DebugBackEnd.GONE;
            case "NONE": return DebugBackEnd.NONE;
            default: return Long.parseLong(text);
        }
    }
}
