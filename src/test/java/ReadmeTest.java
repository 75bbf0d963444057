import java.io.IOException;
import java.nio.file.Files;
import java.nio.file.Path;
import java.util.HashMap;
import java.util.Map;
import java.util.Set;
import java.util.TreeSet;
import java.util.regex.Matcher;
import java.util.regex.Pattern;

/** Each call that README.md shows answers as README.md says, and it shows each call of the face. */
public final class ReadmeTest {
    private static final String NEW_OBJECT = "MachineTables x = new MachineTables();";
    private static final Pattern CALL =
        Pattern.compile("(?:int (\\w+) = )?x\\.(\\w+)\\(([\\w ,+-]*)\\);(?: +// (.*))?");
    /** What stands first in the words behind a call. */
    private static final Pattern ANSWER =
        Pattern.compile("(-?[0-9]+|true|false|throws \\w+)(?:[:,;].*)?");

    private final Map<String, Integer> values = new HashMap<>();
    private final Set<String> shown = new TreeSet<>();
    private Run run = null;

    private ReadmeTest() {
    }

    private void follow(String line) {
        if (line.equals(NEW_OBJECT)) {
            run = new Run();
            values.clear();
            return;
        }
        Matcher call = CALL.matcher(line);
        Due.is("README.md, a call: " + line, true, run != null && call.matches());
        if (run != null && call.matches()) {
            ask(call.group(1), call.group(2), call.group(3), call.group(4));
        }
    }

    private void ask(String variable, String name, String with, String words) {
        String got = run.answer(name, numbers(with));
        shown.add(name);
        Due.same("README.md, " + name + "(" + with + ")", answerIn(name, words), got);
        if (variable != null) {
            values.put(variable, Integer.parseInt(got));
        }
    }

    /** Of clear() there is no answer, so what stands behind it is free. */
    private static String answerIn(String name, String words) {
        if (name.equals("clear")) {
            return "null";
        }
        Matcher answer = ANSWER.matcher(words == null ? "" : words);
        return answer.matches() ? answer.group(1).replace(' ', '.') : "an answer told first";
    }

    private int[] numbers(String with) {
        if (with.isEmpty()) {
            return new int[0];
        }
        String[] sums = with.split(", ");
        int[] numbers = new int[sums.length];
        for (int i = 0; i < sums.length; i++) {
            for (String part : sums[i].split(" \\+ ")) {
                numbers[i] += values.containsKey(part) ? values.get(part) : Integer.parseInt(part);
            }
        }
        return numbers;
    }

    public static void main(String[] args) throws IOException {
        ReadmeTest test = new ReadmeTest();
        boolean isJava = false;
        for (String line : Files.readAllLines(Path.of("README.md"))) {
            if (line.startsWith("```")) {
                isJava = line.equals("```java");
            } else if (isJava && !line.isBlank()) {
                test.follow(line);
            }
        }
        Due.same("the calls that README.md shows", "[alike, along, arrow, chain, classes, clear,"
            + " home, least, letter, like, look, machine, part, reset, total]",
            test.shown.toString());
        Due.end();
    }
}
