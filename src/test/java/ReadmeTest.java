import java.io.IOException;
import java.nio.file.Files;
import java.nio.file.Path;
import java.util.HashMap;
import java.util.Map;
import java.util.TreeSet;
import java.util.regex.Matcher;
import java.util.regex.Pattern;

/** The calls that README.md shows, done as they stand there: they answer what it says behind them. */
public final class ReadmeTest {
    private static final Pattern CALL =
        Pattern.compile("(?:int (\\w+) = )?x\\.(\\w+)\\(([^)]*)\\);\\s*// (?:-> (-?\\d+))?.*");

    private final RoomHours x = new RoomHours();
    private final Map<String, Integer> numbers = new HashMap<>();
    private final TreeSet<String> shown = new TreeSet<>();

    private ReadmeTest() {
        numbers.put("RoomHours.OUTSIDE", RoomHours.OUTSIDE);
        numbers.put("RoomHours.NONE", RoomHours.NONE);
    }

    public static void main(String[] args) throws IOException {
        ReadmeTest test = new ReadmeTest();
        String readme = Files.readString(Path.of("README.md"));
        for (String line : example(readme).split("\n")) {
            test.follow(line);
        }
        Check.due("calls shown", test.shown.toString(), face().toString());
        Check.end();
    }

    private static String example(String readme) {
        int from = readme.indexOf("```java\n");
        int to = readme.indexOf("```\n", from + 1);
        return from < 0 || to < 0 ? "" : readme.substring(from + "```java\n".length(), to);
    }

    private static TreeSet<String> face() {
        TreeSet<String> names = new TreeSet<>();
        for (String call : Model.CALLS) {
            names.add(call);
        }
        return names;
    }

    private void follow(String line) {
        if (line.isEmpty() || line.equals("RoomHours x = new RoomHours();")) {
            return;
        }
        Matcher m = CALL.matcher(line);
        if (!m.matches()) {
            Check.say("README.md shows no call in: " + line);
            return;
        }
        String call = m.group(2);
        long answer = Calls.answer(x, call, numbersOf(m.group(3)));
        shown.add(call);
        if (!call.equals("ease")) {
            Check.due("README.md: " + line, Long.toString(answer), String.valueOf(m.group(4)));
        }
        if (m.group(1) != null) {
            numbers.put(m.group(1), (int) answer);
        }
    }

    private int[] numbersOf(String text) {
        String[] parts = text.split(", ");
        int[] a = new int[parts.length];
        for (int i = 0; i < a.length; i++) {
            Integer named = numbers.get(parts[i]);
            a[i] = named == null ? Integer.parseInt(parts[i]) : named;
        }
        return a;
    }
}
