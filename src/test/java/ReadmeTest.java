import java.lang.reflect.Method;
import java.nio.charset.StandardCharsets;
import java.nio.file.Files;
import java.nio.file.Path;
import java.util.Arrays;
import java.util.List;
import java.util.regex.Matcher;
import java.util.regex.Pattern;

/** Makes the calls of README.md's examples and looks whether they answer what stands behind them. */
public final class ReadmeTest {
    private static final Check CHECK = new Check("ReadmeTest");
    private static final String MAKING = "TailorRegiment x = new TailorRegiment();";
    private static final Pattern CALL =
            Pattern.compile("x\\.(\\w+)\\((.*?)\\); +// (-?\\d+|true|false)(?:: (.*))?");

    public static void main(String[] args) throws Exception {
        List<String> lines = Files.readAllLines(Path.of("README.md"), StandardCharsets.US_ASCII);
        CHECK.due("the command that runs all tests", lines.contains("    .ci/run"), true);
        TailorRegiment x = null;
        boolean code = false;
        int calls = 0;
        for (String line : lines) {
            if (line.startsWith("```")) {
                code = line.equals("```java");
            } else if (code && line.equals(MAKING)) {
                x = new TailorRegiment();
            } else if (code) {
                call(x, line);
                calls++;
            }
        }
        CHECK.due("has examples", calls > 30, true);
        CHECK.finish();
    }

    private static void call(TailorRegiment x, String line) throws Exception {
        Matcher parts = CALL.matcher(line);
        CHECK.due("an object, a call and its answer: " + line, x != null && parts.matches(), true);
        if (x == null || !parts.matches()) {
            return;
        }
        Object[] args = Arrays.stream(parts.group(2).split(", ")).filter(word -> !word.isEmpty())
                .map(ReadmeTest::value).toArray();
        Class<?>[] types = Arrays.stream(args)
                .map(a -> a instanceof Boolean ? boolean.class : int.class).toArray(Class<?>[]::new);
        Method method = TailorRegiment.class.getMethod(parts.group(1), types);
        CHECK.due(line, String.valueOf(method.invoke(x, args)).equals(parts.group(3)), true);
        if (parts.group(1).equals("feed")) {
            CHECK.due("the bytes of " + line, ("\"" + text(args) + "\"").equals(parts.group(4)), true);
        }
    }

    private static Object value(String word) {
        if (word.equals("true") || word.equals("false")) {
            return Boolean.valueOf(word);
        }
        return Long.decode(word).intValue();
    }

    private static String text(Object[] args) {
        StringBuilder text = new StringBuilder();
        for (Object four : args) {
            for (int shift = 24; shift >= 0; shift -= 8) {
                text.append((char) ((Integer) four >> shift & 255));
            }
        }
        return text.toString().replace("\0", "");
    }
}
