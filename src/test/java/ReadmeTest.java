import java.io.IOException;
import java.nio.file.Files;
import java.nio.file.Path;
import java.util.Arrays;
import java.util.List;
import java.util.regex.Matcher;
import java.util.regex.Pattern;

/** The examples of README.md: each call answers what stands behind it, and its text is read. */
public final class ReadmeTest {
    private static final Pattern CALL = Pattern.compile("x\\.(\\w+)\\(([-0-9, ]*)\\);\\s*// (-?[0-9]+): .*");

    private final Check check = new Check("ReadmeTest");

    public static void main(String[] args) throws IOException {
        List<String> lines = Files.readAllLines(Path.of("README.md"));
        ReadmeTest test = new ReadmeTest();
        test.calls(lines);
        test.text(lines);
        test.everyCallIsNamed(lines);
        test.check.finish();
    }

    private void calls(List<String> lines) {
        EggSpoons x = new EggSpoons();
        for (String line : lines) {
            if (!line.startsWith("x.")) {
                continue;
            }
            Matcher call = CALL.matcher(line);
            check.holds("README.md tells an answer: " + line, call.matches());
            if (call.matches()) {
                check.due(line, Long.parseLong(call.group(3)), Calls.on(x, call.group(1), numbers(call.group(2))));
            }
        }
    }

    private void text(List<String> lines) {
        EggSpoons x = new EggSpoons();
        String text = lines.stream().filter(line -> line.startsWith("race 20;")).findFirst().orElse("");
        Given.text(x, text);
        check.due("read() of README.md's text", 6, x.read());
        check.due("place of 0", 6, x.of(0, 4));
        check.due("place of 1", 12, x.of(1, 4));
    }

    private void everyCallIsNamed(List<String> lines) {
        String table = String.join("\n", lines.stream().filter(line -> line.startsWith("|")).toList());
        for (var method : EggSpoons.class.getDeclaredMethods()) {
            if (java.lang.reflect.Modifier.isPublic(method.getModifiers())) {
                check.holds("README.md names " + method.getName(), table.contains("`" + method.getName() + "`"));
            }
        }
    }

    private static int[] numbers(String told) {
        return told.isBlank() ? new int[0] : Arrays.stream(told.split(",")).mapToInt(n -> Integer.parseInt(n.trim())).toArray();
    }
}
