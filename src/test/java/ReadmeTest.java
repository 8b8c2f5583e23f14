import java.lang.reflect.Method;
import java.lang.reflect.Modifier;
import java.nio.file.Files;
import java.nio.file.Path;
import java.util.List;
import java.util.regex.Matcher;
import java.util.regex.Pattern;

/** What README.md tells: its example's answers, every call, every test, every finding. */
public final class ReadmeTest {
    private static final Due due = new Due("ReadmeTest");
    private static final Pattern CALL = Pattern.compile("^x\\.(\\w+)\\((.*)\\);\\s*// (-?\\d+): .*");

    public static void main(String[] args) throws Exception {
        List<String> lines = Files.readAllLines(Path.of("README.md"));
        example(lines);
        String text = String.join("\n", lines);
        callsAreNamed(text);
        testsAreNamed(text);
        for (int finding = Due.BEYOND; finding >= Due.SIZE; finding--) {
            due.holds("README.md tells " + finding, text.contains("| " + finding + " |"));
        }
        due.end();
    }

    private static void example(List<String> lines) throws Exception {
        ParcelBall x = new ParcelBall();
        int asked = 0;
        for (String line : lines) {
            if (line.startsWith("x.")) {
                Matcher m = CALL.matcher(line);
                due.holds("an answer stands behind: " + line, m.matches());
                due.is(line, call(x, m.group(1), m.group(2)), Long.parseLong(m.group(3)));
                asked++;
            }
        }
        due.holds("the example has calls: " + asked, asked > 20);
    }

    private static long call(ParcelBall x, String name, String arguments) throws Exception {
        String[] told = arguments.isEmpty() ? new String[0] : arguments.split(", ");
        Object[] values = new Object[told.length];
        for (int i = 0; i < told.length; i++) {
            values[i] = value(told[i]);
        }
        for (Method m : ParcelBall.class.getDeclaredMethods()) {
            if (m.getName().equals(name) && Modifier.isPublic(m.getModifiers())) {
                return ((Number) m.invoke(x, values)).longValue();
            }
        }
        throw new IllegalArgumentException("no call " + name);
    }

    /** A number, or signs put into their bytes and joined by |. */
    private static int value(String told) {
        int value = 0;
        for (String part : told.split(" \\| ")) {
            Matcher sign = Pattern.compile("'(.)'(?: << (\\d+))?").matcher(part);
            if (sign.matches()) {
                int shift = sign.group(2) == null ? 0 : Integer.parseInt(sign.group(2));
                value |= sign.group(1).charAt(0) << shift;
            } else {
                value |= Integer.parseInt(part);
            }
        }
        return value;
    }

    private static void callsAreNamed(String text) {
        for (Method m : ParcelBall.class.getDeclaredMethods()) {
            if (Modifier.isPublic(m.getModifiers())) {
                due.holds("README.md names " + m.getName(), text.contains("`" + m.getName() + "`"));
            }
        }
    }

    private static void testsAreNamed(String text) {
        for (String file : new java.io.File("src/test/java").list()) {
            if (file.endsWith("Test.java")) {
                String test = file.substring(0, file.length() - ".java".length());
                due.holds("README.md names " + test, text.contains("| " + test + " |"));
            }
        }
    }
}
