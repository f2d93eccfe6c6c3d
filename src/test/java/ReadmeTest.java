import java.io.IOException;
import java.lang.reflect.Method;
import java.nio.file.Files;
import java.nio.file.Path;
import java.util.List;
import java.util.regex.Matcher;
import java.util.regex.Pattern;

/** Makes the calls of README.md's example: each answers what its comment says. */
final class ReadmeTest {
    private static final Pattern CALL = Pattern.compile("x\\.(\\w+)\\(([-0-9, ]*)\\);\\s+// (-?\\d+): .*");
    private static final Pattern TEXT =
            Pattern.compile("for \\(char c : \"(.*)\"\\.toCharArray\\(\\)\\) x\\.append\\(c\\);");
    private static final String NEW = "AccentModems x = new AccentModems();";

    public static void main(String[] args) throws IOException, ReflectiveOperationException {
        Check check = new Check();
        AccentModems x = null;
        for (String line : example()) {
            Matcher call = CALL.matcher(line);
            Matcher text = TEXT.matcher(line);
            if (line.equals(NEW)) {
                x = new AccentModems();
            } else if (text.matches()) {
                Check.append(x, text.group(1));
            } else if (call.matches()) {
                check.due(line, answer(x, call.group(1), call.group(2)), Long.parseLong(call.group(3)));
            } else {
                check.complain("README.md: this line is not understood: " + line);
            }
        }
        check.end();
    }

    /** The lines of the one block of Java. */
    private static List<String> example() throws IOException {
        List<String> lines = Files.readAllLines(Path.of("README.md"));
        int start = lines.indexOf("```java") + 1;
        int length = lines.subList(start, lines.size()).indexOf("```");
        return lines.subList(start, start + length);
    }

    private static long answer(AccentModems x, String name, String written) throws ReflectiveOperationException {
        String[] numbers = written.isEmpty() ? new String[0] : written.split(", *");
        Class<?>[] types = new Class<?>[numbers.length];
        Object[] arguments = new Object[numbers.length];
        for (int i = 0; i < numbers.length; i++) {
            types[i] = int.class;
            arguments[i] = Integer.valueOf(numbers[i]);
        }
        Method called = AccentModems.class.getMethod(name, types);
        return ((Number) called.invoke(x, arguments)).longValue();
    }
}
