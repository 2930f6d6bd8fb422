import java.lang.reflect.Field;
import java.lang.reflect.Method;
import java.lang.reflect.Modifier;
import java.nio.file.Files;
import java.nio.file.Path;
import java.util.HashMap;
import java.util.Map;
import java.util.regex.Matcher;
import java.util.regex.Pattern;

/** README.md: its example answers what it says, and its tables name each call and each constant. */
public final class ReadmeTest {
    private static final Due due = new Due("ReadmeTest");
    private static final Pattern CALL =
        Pattern.compile("^(?:int (\\w+) = )?sky\\.(\\w+)\\(([^)]*)\\); +// (-?\\d+)(?:: .*)?$");

    public static void main(String[] args) throws Exception {
        String page = Files.readString(Path.of("README.md"));
        example(page);
        tables(page);
        due.end();
    }

    private static void example(String page) {
        Asker sky = new Asker();
        Map<String, Integer> names = new HashMap<>();
        int calls = 0;
        String code = page.substring(page.indexOf("```java\n") + 8);
        for (String line : code.substring(0, code.indexOf("```")).split("\n")) {
            Matcher m = CALL.matcher(line);
            if (m.matches()) {
                calls++;
                int got = sky.ask(m.group(2), numbers(m.group(3), names));
                due.is(line, got, Integer.parseInt(m.group(4)));
                if (m.group(1) != null) {
                    names.put(m.group(1), got);
                }
            } else {
                due.holds("no call with its answer: " + line, line.isEmpty() || line.contains("new NorthCurtains()"));
            }
        }
        due.holds("the example has calls: " + calls, calls > 20);
    }

    private static int[] numbers(String list, Map<String, Integer> names) {
        String[] parts = list.isEmpty() ? new String[0] : list.split(", ");
        int[] numbers = new int[parts.length];
        for (int i = 0; i < parts.length; i++) {
            numbers[i] = names.containsKey(parts[i]) ? names.get(parts[i]) : Integer.parseInt(parts[i]);
        }
        return numbers;
    }

    private static void tables(String page) throws Exception {
        for (Method m : NorthCurtains.class.getDeclaredMethods()) {
            if (Modifier.isPublic(m.getModifiers())) {
                due.holds("no row names " + m.getName(),
                    Pattern.compile("(?m)^\\|[^|]*`" + m.getName() + "`").matcher(page).find());
            }
        }
        for (Field f : NorthCurtains.class.getDeclaredFields()) {
            if (Modifier.isPublic(f.getModifiers())) {
                due.holds("no row tells " + f.getName(),
                    page.contains("| `" + f.getName() + "` | " + f.getInt(null) + " |"));
            }
        }
    }
}
