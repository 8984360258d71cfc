import java.lang.reflect.Method;
import java.nio.file.Files;
import java.nio.file.Path;
import java.util.regex.Matcher;
import java.util.regex.Pattern;

/** The calls that README.md shows answer as it says, one after another on one object. */
public final class ReadmeTest {
    private static final Told TOLD = new Told("ReadmeTest");
    private static final Pattern TEXT = Pattern.compile("tell\\(x, \"([^\"]*)\"\\);");
    private static final Pattern CALL = Pattern.compile("x\\.(\\w+)\\(([-0-9, ]*)\\); +// (-?[0-9]+).*");

    public static void main(String[] args) throws Exception {
        SagMemory x = new SagMemory();
        int calls = 0;
        for (String line : Files.readAllLines(Path.of("README.md"))) {
            Matcher text = TEXT.matcher(line.trim());
            Matcher call = CALL.matcher(line.trim());
            if (text.matches()) {
                TOLD.due("lines of " + text.group(1), Told.tell(x, text.group(1)), signs(text.group(1), ';'));
            } else if (call.matches()) {
                calls++;
                TOLD.due(line.trim(), answer(x, call.group(1), call.group(2)), Long.parseLong(call.group(3)));
            }
        }
        TOLD.due("README.md shows calls", calls > 30 ? 1 : 0, 1);
        TOLD.close();
    }

    private static int signs(String text, char sign) {
        int found = 0;
        for (char each : text.toCharArray()) {
            found += each == sign ? 1 : 0;
        }
        return found;
    }

    private static long answer(SagMemory x, String name, String numbers) throws Exception {
        String[] told = numbers.isEmpty() ? new String[0] : numbers.split(", ");
        for (Method method : SagMemory.class.getMethods()) {
            if (method.getName().equals(name) && method.getParameterCount() == told.length) {
                Object[] arguments = new Object[told.length];
                for (int i = 0; i < told.length; i++) {
                    boolean wide = method.getParameterTypes()[i] == long.class;
                    arguments[i] = wide ? (Object) Long.valueOf(told[i]) : (Object) Integer.valueOf(told[i]);
                }
                return ((Number) method.invoke(x, arguments)).longValue();
            }
        }
        throw new IllegalStateException("no call " + name + " with " + told.length + " numbers");
    }
}
