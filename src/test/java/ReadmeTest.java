import java.io.IOException;
import java.nio.file.Files;
import java.nio.file.Path;
import java.util.ArrayList;
import java.util.HashMap;
import java.util.List;
import java.util.Map;
import java.util.regex.Matcher;
import java.util.regex.Pattern;

/** The example in README.md has every call, and each answers what the example says. */
public final class ReadmeTest {
    private static final Pattern CALL =
        Pattern.compile("(?:int (\\w+) = )?house\\.(\\w+)\\(([^)]*)\\); +// (-?\\d+)(?::.*)?");

    private final CordHouse house = new CordHouse();
    private final Map<String, Integer> named = new HashMap<>();
    private final List<String> left = new ArrayList<>(List.of(Calls.NAMES));

    private int valueOf(String word) {
        return named.containsKey(word) ? named.get(word) : Integer.parseInt(word);
    }

    private void ask(String line) {
        Matcher m = CALL.matcher(line);
        boolean isCall = m.matches();
        Due.due("a call with its answer: " + line, isCall ? 1 : 0, 1);
        if (!isCall) {
            return;
        }
        String[] words = m.group(3).split(", ");
        int[] arguments = new int[words.length];
        for (int i = 0; i < words.length; i++) {
            arguments[i] = valueOf(words[i]);
        }
        int got = Calls.onHouse(house, m.group(2), arguments);
        Due.due(line, got, Integer.parseInt(m.group(4)));
        left.remove(m.group(2));
        if (m.group(1) != null) {
            named.put(m.group(1), got);
        }
    }

    private void run(String example) {
        for (String line : example.split("\n")) {
            if (line.contains("house.")) {
                ask(line);
            }
        }
        Due.due("calls without an example: " + left, left.size(), 0);
    }

    public static void main(String[] args) throws IOException {
        Matcher m = Pattern.compile("(?s)```java\n(.*?)```").matcher(Files.readString(Path.of("README.md")));
        Due.due("README.md has an example", m.find() ? 1 : 0, 1);
        new ReadmeTest().run(m.group(1));
        Due.end();
    }
}
