import java.lang.reflect.Method;
import java.nio.file.Files;
import java.nio.file.Path;
import java.util.HashMap;
import java.util.Map;
import java.util.regex.Matcher;
import java.util.regex.Pattern;

/** The calls that README.md shows answer what their comments say. */
public final class ReadmeTest {
    private static final Pattern CALL =
        Pattern.compile("(?:int (\\w+) = )?loft\\.(\\w+)\\((.*)\\);\\s+// (-?\\d+|true|false):.*");
    private static final Pattern GRAMS = Pattern.compile("Float\\.floatToIntBits\\((.*)f\\)");

    private static final Due due = new Due();
    private static final Map<String, Integer> names = new HashMap<>();

    public static void main(String[] args) throws Exception {
        due.about("README.md");
        SailLoft loft = new SailLoft();
        for (String line : example()) {
            Matcher call = CALL.matcher(line);
            if (call.matches()) {
                check(loft, call);
            } else {
                due.yes("a line that is read: " + line, line.equals("SailLoft loft = new SailLoft();"));
            }
        }
        due.end();
    }

    private static String[] example() throws Exception {
        String text = Files.readString(Path.of("README.md"));
        String opens = "```java\n";
        int start = text.indexOf(opens);
        int end = text.indexOf("\n```", start);
        due.yes("an example", start >= 0 && end > start);
        return start < 0 || end < start ? new String[0]
            : text.substring(start + opens.length(), end).split("\n");
    }

    private static void check(SailLoft loft, Matcher call) throws Exception {
        Method method = methodOf(call.group(2));
        String[] texts = call.group(3).isEmpty() ? new String[0] : call.group(3).split(", ");
        Object[] inputs = new Object[texts.length];
        for (int i = 0; i < texts.length; i++) {
            inputs[i] = valueOf(texts[i]);
        }
        String answer = String.valueOf(method.invoke(loft, inputs));
        due.yes(call.group() + " answered " + answer + ", and that", answer.equals(call.group(4)));
        if (call.group(1) != null) {
            names.put(call.group(1), Integer.valueOf(answer));
        }
    }

    private static Method methodOf(String name) {
        for (Method method : SailLoft.class.getMethods()) {
            if (method.getName().equals(name)) {
                return method;
            }
        }
        throw new IllegalStateException("README.md calls " + name);
    }

    private static Object valueOf(String text) {
        Matcher grams = GRAMS.matcher(text);
        if (grams.matches()) {
            return Float.floatToIntBits(Float.parseFloat(grams.group(1)));
        }
        if (text.equals("true") || text.equals("false")) {
            return Boolean.valueOf(text);
        }
        int sum = 0;
        for (String part : text.split(" \\+ ")) {
            sum += names.containsKey(part) ? names.get(part) : Integer.parseInt(part);
        }
        return sum;
    }
}
