import java.io.IOException;
import java.lang.reflect.Method;
import java.nio.charset.StandardCharsets;
import java.nio.file.Files;
import java.nio.file.Path;
import java.util.ArrayList;
import java.util.Arrays;
import java.util.List;
import java.util.regex.Matcher;
import java.util.regex.Pattern;

/** The calls of README.md, in their order on one object, answer what is said behind them. */
public final class ReadmeTest {
    private static final Pattern CALL = Pattern.compile("x\\.(\\w+)\\((.*)\\);\\s+// (-?\\d+)(?::.*)?");
    private static final Pattern BLOCK = Pattern.compile("(?s)```java\n(.*?)```");

    public static void main(String[] args) throws ReflectiveOperationException, IOException {
        Matcher block = BLOCK.matcher(Files.readString(Path.of("README.md"), StandardCharsets.UTF_8));
        Checks.holds("README.md has an example", block.find());
        PepperYears x = new PepperYears();
        int calls = 0;
        for (String line : block.group(1).split("\n")) {
            if (line.startsWith("x.")) {
                ask(x, line);
                calls++;
            }
        }
        Checks.holds("the example has calls", calls > 0);
        Checks.finish();
    }

    private static void ask(PepperYears x, String line) throws ReflectiveOperationException {
        Matcher call = CALL.matcher(line);
        if (!call.matches()) {
            Checks.holds("this is a call with its answer: " + line, false);
            return;
        }
        List<Object> numbers = new ArrayList<>();
        for (String number : call.group(2).split("[, ]+")) {
            if (!number.isEmpty()) {
                numbers.add(Integer.decode(number));
            }
        }
        Class<?>[] types = new Class<?>[numbers.size()];
        Arrays.fill(types, int.class);
        Method method = PepperYears.class.getMethod(call.group(1), types);
        Number got = (Number) method.invoke(x, numbers.toArray());
        Checks.due(line, got.longValue(), Long.parseLong(call.group(3)));
    }
}
