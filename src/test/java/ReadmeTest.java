import java.io.IOException;
import java.lang.reflect.Method;
import java.lang.reflect.Modifier;
import java.nio.file.Files;
import java.nio.file.Path;
import java.util.HashMap;
import java.util.Map;
import java.util.regex.Matcher;
import java.util.regex.Pattern;

/** What README.md says of the class's use: each call of its example is made, and must answer what stands behind it. */
public final class ReadmeTest {
    private static final Pattern CALL =
        Pattern.compile("(?:int (\\w+) = )?canal\\.(\\w+)\\(([^)]*)\\);\\s*// (-?\\d+): .+");
    private static final Map<String, Integer> NAMED = new HashMap<>();

    public static void main(String[] args) throws IOException, ReflectiveOperationException {
        Path main = Path.of(args.length > 0 ? args[0] : "src/main/java/ShipCut.java");
        String text = Files.readString(main.toAbsolutePath().resolve("../../../../README.md").normalize());
        example(between(text, "```java\n", "```"));
        table(text);
        Check.finish();
    }

    private static String between(String text, String open, String close) {
        int from = text.indexOf(open);
        int to = from < 0 ? -1 : text.indexOf(close, from + open.length());
        return to < 0 ? "" : text.substring(from + open.length(), to);
    }

    private static void example(String code) throws ReflectiveOperationException {
        String[] lines = code.split("\n");
        Check.holds("the example makes a canal first", lines[0].equals("ShipCut canal = new ShipCut();"));
        Check.holds("the example has calls", lines.length > 10);
        ShipCut canal = new ShipCut();
        for (int i = 1; i < lines.length; i++) {
            Matcher call = CALL.matcher(lines[i]);
            Check.holds("a call and its answer: " + lines[i], call.matches());
            if (call.matches()) {
                int got = answer(canal, call.group(2), call.group(3).split(", "));
                Check.due(lines[i], got, Integer.parseInt(call.group(4)));
                if (call.group(1) != null) {
                    NAMED.put(call.group(1), got);
                }
            }
        }
    }

    private static int answer(ShipCut canal, String name, String[] words) throws ReflectiveOperationException {
        for (Method m : ShipCut.class.getMethods()) {
            if (m.getName().equals(name) && m.getParameterCount() == words.length) {
                Object[] values = new Object[words.length];
                for (int i = 0; i < words.length; i++) {
                    values[i] = value(words[i]);
                }
                return (Integer) m.invoke(canal, values);
            }
        }
        Check.holds("there is a call " + name + " of " + words.length, false);
        return 0;
    }

    private static Object value(String word) {
        if (word.equals("true") || word.equals("false")) {
            return word.equals("true");
        }
        return NAMED.containsKey(word) ? NAMED.get(word) : Integer.valueOf(word);
    }

    private static void table(String text) {
        for (Method m : ShipCut.class.getDeclaredMethods()) {
            if (Modifier.isPublic(m.getModifiers())) {
                String row = between(text, "| `" + m.getName() + "(", ")` |");
                Check.due("the table's arguments of " + m.getName(), row.split(", ").length, m.getParameterCount());
                Check.holds("the table has " + m.getName(), !row.isEmpty());
            }
        }
    }
}
