import java.io.IOException;
import java.lang.reflect.InvocationTargetException;
import java.lang.reflect.Method;
import java.nio.file.Files;
import java.nio.file.Path;
import java.util.HashMap;
import java.util.Map;
import java.util.regex.Matcher;
import java.util.regex.Pattern;

/** The examples of README.md answer what stands behind them. */
public final class ReadmeTest {
    private static final Pattern CALL =
            Pattern.compile("(?:int (\\w+) = )?x\\.(\\w+)\\(([^)]*)\\); *// (throws \\w+|[^:]+)(: .*)?");

    public static void main(String[] args) throws IOException, IllegalAccessException {
        Residuary x = new Residuary();
        Map<String, Object> named = new HashMap<>();
        boolean isJava = false;
        int calls = 0;
        for (String line : Files.readAllLines(Path.of("README.md"))) {
            if (line.startsWith("```")) {
                isJava = line.equals("```java");
            } else if (isJava && !line.equals("Residuary x = new Residuary();")) {
                Matcher call = CALL.matcher(line);
                Check.isTrue("a call with its answer: " + line, call.matches());
                Object answer = answer(x, call.group(2), call.group(3), named);
                Check.same(line, String.valueOf(answer), call.group(4));
                if (call.group(1) != null) {
                    named.put(call.group(1), answer);
                }
                calls++;
            }
        }
        Check.isTrue("there are examples", calls > 20);
        Check.end("ReadmeTest");
    }

    private static Object answer(Residuary x, String name, String arguments, Map<String, Object> named)
            throws IllegalAccessException {
        String[] texts = arguments.isEmpty() ? new String[0] : arguments.split(", ");
        Object[] given = new Object[texts.length];
        for (int i = 0; i < texts.length; i++) {
            given[i] = texts[i].startsWith("'") ? (Object) texts[i].charAt(1)
                    : named.containsKey(texts[i]) ? named.get(texts[i]) : (Object) Integer.valueOf(texts[i]);
        }
        for (Method method : Residuary.class.getDeclaredMethods()) {
            if (method.getName().equals(name)) {
                try {
                    return method.invoke(x, given);
                } catch (InvocationTargetException e) {
                    return "throws " + e.getCause().getClass().getSimpleName();
                }
            }
        }
        return "no such call";
    }

    private ReadmeTest() {
    }
}
