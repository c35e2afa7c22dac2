import java.lang.reflect.Method;
import java.nio.file.Files;
import java.nio.file.Path;
import java.util.List;
import java.util.regex.Matcher;
import java.util.regex.Pattern;

/** The example of README.md is run as it stands there, and every call of the face is named there. */
public final class ReadmeTest {
    private static final Pattern MADE = Pattern.compile("SpanBoard board = new SpanBoard\\((-?\\d+)\\);.*");
    private static final Pattern CALL =
        Pattern.compile("board\\.(\\w+)\\(([-\\d, ]*)\\); *// (true|false|-?\\d+)(:.*)?");

    public static void main(String[] args) throws Exception {
        List<String> lines = Files.readAllLines(Path.of("README.md"));
        runExample(lines.subList(lines.indexOf("```java") + 1, lines.indexOf("```")));
        String text = String.join("\n", lines);
        for (Method m : SpanBoard.class.getMethods()) {
            if (m.getDeclaringClass() == SpanBoard.class) {
                Check.yes("README.md names " + m.getName(), text.contains("`" + m.getName() + "("));
            }
        }
        Check.end();
    }

    private static void runExample(List<String> lines) throws Exception {
        Matcher made = MADE.matcher(lines.get(0));
        Check.yes("the example begins with a new board: " + lines.get(0), made.matches());
        SpanBoard board = new SpanBoard(Integer.parseInt(made.group(1)));
        for (String line : lines.subList(1, lines.size())) {
            Matcher call = CALL.matcher(line);
            Check.yes("is a call and its answer: " + line, call.matches());
            Check.yes(line, call.group(3).equals(answer(board, call.group(1), call.group(2))));
        }
    }

    private static String answer(SpanBoard board, String name, String given) throws Exception {
        String[] words = given.isEmpty() ? new String[0] : given.split(", *");
        Class<?>[] types = new Class<?>[words.length];
        Object[] values = new Object[words.length];
        for (int i = 0; i < words.length; i++) {
            types[i] = int.class;
            values[i] = Integer.valueOf(words[i]);
        }
        return String.valueOf(SpanBoard.class.getMethod(name, types).invoke(board, values));
    }
}
