import java.io.IOException;
import java.lang.reflect.Method;
import java.lang.reflect.Modifier;
import java.nio.file.Files;
import java.nio.file.Path;
import java.util.HashMap;
import java.util.List;
import java.util.Map;
import java.util.regex.Matcher;
import java.util.regex.Pattern;

/** README.md, so that what it says of the class holds. */
final class ReadmeTest {

    /** A call of the example, perhaps with a name for its answer, and the answer up to a comma or colon. */
    private static final Pattern CALL =
        Pattern.compile("(?:int (\\w+) = )?x\\.(\\w+)\\((.*)\\);\\s+// ([^,:]+).*");

    private final SailorCandles x = new SailorCandles();
    private final Map<String, Object> named = new HashMap<>();

    private ReadmeTest() {
    }

    static void ruleExampleAnswersAsItSays() throws IOException, ReflectiveOperationException {
        List<String> lines = Files.readAllLines(Path.of("README.md"));
        int line = lines.indexOf("```java") + 1;
        Check.equal("first line", "SailorCandles x = new SailorCandles();", lines.get(line));
        ReadmeTest test = new ReadmeTest();
        int calls = 0;
        for (line++; !lines.get(line).equals("```"); line++) {
            test.call(lines.get(line));
            calls++;
        }
        Check.yes("some calls", calls > 10);
    }

    static void ruleEachCallIsNamed() throws IOException {
        String text = Files.readString(Path.of("README.md"));
        for (Method method : SailorCandles.class.getDeclaredMethods()) {
            if (Modifier.isPublic(method.getModifiers())) {
                Check.yes(method.getName() + " is named", text.contains("`" + method.getName() + "("));
            }
        }
    }

    private void call(String line) throws ReflectiveOperationException {
        Matcher call = CALL.matcher(line);
        Check.yes("a call and its answer: " + line, call.matches());
        Object answer = ask(call.group(2), call.group(3));
        Check.equal(line, call.group(4), String.valueOf(answer));
        if (call.group(1) != null) {
            named.put(call.group(1), answer);
        }
    }

    private Object ask(String name, String arguments) throws ReflectiveOperationException {
        String[] told = arguments.isEmpty() ? new String[0] : arguments.split(", ");
        Object[] values = new Object[told.length];
        for (int i = 0; i < told.length; i++) {
            values[i] = value(told[i]);
        }
        for (Method method : SailorCandles.class.getMethods()) {
            if (method.getName().equals(name)) {
                return method.invoke(x, values);
            }
        }
        throw new AssertionError("no such call: " + name);
    }

    private Object value(String told) {
        if (named.containsKey(told)) {
            return named.get(told);
        }
        return told.equals("true") || told.equals("false") ? (Object) Boolean.valueOf(told) : Integer.valueOf(told);
    }
}
