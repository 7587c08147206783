import java.io.IOException;
import java.nio.file.Files;
import java.nio.file.Path;
import java.util.HashMap;
import java.util.List;
import java.util.Map;
import java.util.regex.Matcher;
import java.util.regex.Pattern;

/**
 * The examples of README.md, read from it and called in their order: a comment that begins with a
 * number tells what that call answers.
 */
public final class ReadmeTest {
    private static final Pattern CALL = Pattern.compile(
            "(?:int (\\w+) = )?lines\\.(\\w+)\\((.*?)\\); *// (?:(\\d[\\d,]*)(?: |:))?.*");

    private final TwinLines lines = new TwinLines();
    private final Map<String, Integer> named = new HashMap<>();
    private final Check check = new Check("README.md");

    public static void main(String[] args) throws IOException {
        ReadmeTest test = new ReadmeTest();
        boolean inside = false;
        int calls = 0;
        List<String> text = Files.readAllLines(Path.of("README.md"));
        for (String line : text) {
            Matcher matcher = CALL.matcher(line);
            if (line.startsWith("```")) {
                inside = line.equals("```java");
            } else if (inside && matcher.matches()) {
                test.follow(line, matcher);
                calls++;
            } else if (inside) {
                test.check.due(line, line.isEmpty() || line.equals("TwinLines lines = new TwinLines();"), true);
            }
        }
        test.check.due("calls in README.md", calls > 0, true);
        Check.end(test.check);
    }

    private void follow(String line, Matcher matcher) {
        String[] parts = matcher.group(3).isEmpty() ? new String[0] : matcher.group(3).split(", ");
        int[] x = new int[parts.length];
        for (int i = 0; i < parts.length; i++) {
            x[i] = named.containsKey(parts[i]) ? named.get(parts[i]) : Integer.parseInt(parts[i]);
        }
        int answer = call(matcher.group(2), x);
        check.due("no call is refused: " + line, answer != TwinLines.BAD, true);
        if (matcher.group(1) != null) {
            named.put(matcher.group(1), answer);
        }
        if (matcher.group(4) != null) {
            check.due(line, answer, Integer.parseInt(matcher.group(4).replace(",", "")));
        }
    }

    private int call(String name, int[] x) {
        switch (name) {
            case "terminal": return lines.terminal(x[0], x[1]);
            case "hold": return lines.hold(x[0], x[1], x[2], x[3]);
            case "transfer": return lines.transfer(x[0], x[1], x[2], x[3], x[4], x[5], x[6], x[7]);
            case "close": return lines.close();
            case "run": return lines.run(x[0]);
            case "block": return lines.block(x[0], x[1], x[2]);
            case "got": return lines.got(x[0], x[1], x[2]);
            case "mute": return lines.mute(x[0], x[1]) ? 1 : TwinLines.BAD;
            case "alter": return lines.alter(x[0], x[1]) ? 1 : TwinLines.BAD;
            case "result": return lines.result(x[0], x[1]);
            case "heard": return lines.heard(x[0], x[1]);
            case "count": return lines.count(x[0]);
            default: throw new IllegalArgumentException(name);
        }
    }
}
