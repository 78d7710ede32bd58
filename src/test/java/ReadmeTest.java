import java.lang.reflect.Method;
import java.nio.file.Files;
import java.nio.file.Path;
import java.util.regex.Matcher;
import java.util.regex.Pattern;

/** Every call in README.md's examples gives the answer told beside it, and its table names every call. */
public final class ReadmeTest {
    private static final Pattern MADE = Pattern.compile("ScarredLog log = new ScarredLog\\((\\d+)\\);");
    private static final Pattern CALL = Pattern.compile("log\\.(\\w+)\\(([^)]*)\\);\\s+// (-?\\w+)(:.*)?");

    public static void main(String[] args) throws Exception {
        String readme = Files.readString(Path.of("README.md"));
        Matcher block = Pattern.compile("(?s)```java\n(.*?)```").matcher(readme);
        int blocks = 0;
        while (block.find()) {
            blocks++;
            example(block.group(1).split("\n"));
        }
        Due.is("examples", blocks, 3);
        for (Method m : ScarredLog.class.getDeclaredMethods()) {
            Due.yes("the table has " + m, (m.getModifiers() & 1) == 0 || readme.contains("`" + m.getName() + "("));
        }
        Due.yes("how to run the tests", readme.contains("## How to run its tests") && readme.contains(".ci/run"));
        Due.end();
    }

    private static void example(String[] lines) throws Exception {
        Matcher made = MADE.matcher(lines[0]);
        Due.yes("makes an object: " + lines[0], made.matches());
        ScarredLog log = new ScarredLog(Integer.parseInt(made.group(1)));
        for (int i = 1; i < lines.length; i++) {
            Matcher call = CALL.matcher(lines[i]);
            Due.yes("a call with its answer: " + lines[i], call.matches());
            Object got = answer(log, call.group(1), call.group(2).split(", "));
            Due.yes(lines[i] + " answered " + got, call.group(3).equals(String.valueOf(got)));
        }
    }

    private static Object answer(ScarredLog log, String name, String[] written) throws Exception {
        for (Method m : ScarredLog.class.getMethods()) {
            if (!m.getName().equals(name)) {
                continue;
            }
            Object[] values = new Object[written.length];
            for (int i = 0; i < written.length; i++) {
                boolean isFlag = m.getParameterTypes()[i] == boolean.class;
                values[i] = isFlag ? (Object) Boolean.valueOf(written[i]) : (Object) Integer.valueOf(written[i]);
            }
            return m.invoke(log, values);
        }
        return "no such call";
    }
}
