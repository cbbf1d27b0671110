import java.io.IOException;
import java.lang.reflect.Method;
import java.nio.file.Files;
import java.nio.file.Path;
import java.util.regex.Matcher;
import java.util.regex.Pattern;

/** The calls that README.md shows answer what it says behind them. */
final class ReadmeTest {
    private static final Pattern SHOWN = Pattern.compile("    lines\\.(\\w+)\\(([-\\d, ]*)\\); +// (\"[^\"]*\"|[^:]+).*");

    private static final Check CHECK = new Check();

    public static void main(String[] args) throws Exception {
        Paintedline lines = new Paintedline();
        int shown = 0;
        for (String row : Files.readAllLines(Path.of("README.md"))) {
            Matcher found = SHOWN.matcher(row);
            if (found.matches()) {
                shown++;
                CHECK.due(row.strip(), answered(lines, found.group(1), found.group(2)), found.group(3));
            } else {
                CHECK.no("not to be read: " + row, row.startsWith("    lines."));
            }
        }
        CHECK.yes("calls were found", shown >= 10);
        CHECK.end();
    }

    private static String answered(Paintedline lines, String name, String values) throws Exception {
        String[] parts = values.isEmpty() ? new String[0] : values.split(", ");
        Object[] taken = new Object[parts.length];
        for (int i = 0; i < parts.length; i++) {
            taken[i] = Integer.parseInt(parts[i]);
        }
        for (Method method : Paintedline.class.getMethods()) {
            if (method.getName().equals(name) && method.getParameterCount() == taken.length) {
                Object got = method.invoke(lines, taken);
                return got instanceof String ? "\"" + got + "\"" : "" + got;
            }
        }
        throw new IOException("no call " + name);
    }

    private ReadmeTest() {
    }
}
