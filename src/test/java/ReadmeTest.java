import java.lang.reflect.Method;
import java.nio.charset.StandardCharsets;
import java.nio.file.Files;
import java.nio.file.Path;
import java.util.regex.Matcher;
import java.util.regex.Pattern;

/** The example of README.md: each call answers the number behind it, and what is written is the text told there. */
public final class ReadmeTest {
    private static final Pattern CALL = Pattern.compile("t\\.(\\w+)\\((.*)\\); +// (-?\\d+): (.*)");

    private ReadmeTest() { }

    public static void main(String[] args) throws Exception {
        String page = Files.readString(Path.of(args.length > 0 ? args[0] : "README.md"), StandardCharsets.US_ASCII);
        int from = page.indexOf("```java\n"), to = page.indexOf("```\n", from + 1);
        Due.hold("an example", from >= 0 && to > from);
        TwoSides t = null;
        for (String line : page.substring(from + 8, to).split("\n")) {
            if (line.equals("TwoSides t = new TwoSides();")) t = new TwoSides();
            else if (!line.isEmpty()) call(t, line);
        }
        Due.end();
    }

    private static void call(TwoSides t, String line) throws Exception {
        Matcher m = CALL.matcher(line);
        Due.hold("a call and its answer: " + line, m.matches());
        if (!m.matches()) return;
        String[] told = m.group(2).isEmpty() ? new String[0] : m.group(2).split(", ");
        Method method = methodOf(m.group(1));
        Object[] arguments = new Object[told.length];
        for (int i = 0; i < told.length; i++) {
            long number = Long.decode(told[i].replace("L", ""));
            if (method.getParameterTypes()[i] == long.class) arguments[i] = number;
            else arguments[i] = (int) number;
        }
        Due.be(line, (int) method.invoke(t, arguments), Integer.parseInt(m.group(3)));
        if (m.group(1).equals("write")) Due.hold("the text of " + line, m.group(4).contains('"' + text(told) + '"'));
    }

    private static Method methodOf(String name) {
        for (Method m : TwoSides.class.getMethods()) if (m.getName().equals(name)) return m;
        throw new IllegalArgumentException(name);
    }

    private static String text(String[] written) {
        long bytes = Long.decode(written[0].replace("L", ""));
        StringBuilder text = new StringBuilder();
        for (int i = 0; i < Integer.parseInt(written[1]); i++) text.append((char) (bytes >> 8 * i & 255));
        return text.toString();
    }
}
