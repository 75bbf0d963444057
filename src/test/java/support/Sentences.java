import java.io.IOException;
import java.nio.file.Files;
import java.nio.file.Path;
import java.util.ArrayList;
import java.util.LinkedHashMap;
import java.util.List;
import java.util.Map;

/** Which sentence of the document a test is of; at the end, whether each sentence has one. */
final class Sentences {
    private static final Path DOCUMENT = Path.of("../shared/DOC.md");
    private static final Map<String, List<String>> QUOTED = new LinkedHashMap<>();

    private Sentences() {
    }

    /** What is asked from here on is asked by this sentence, which stands under that heading. */
    static void test(String heading, String sentence) {
        QUOTED.computeIfAbsent(heading, h -> new ArrayList<>()).add(sentence);
        Due.about(heading + ", '" + sentence + "'");
    }

    /** A sentence that names no boundary: other tests hold it to account. */
    static void hasNoBoundary(String heading, String sentence) {
        QUOTED.computeIfAbsent(heading, h -> new ArrayList<>()).add(sentence);
    }

    /** Under each heading that was named: all that is quoted stands there, and nothing else. */
    static void checkDocument() throws IOException {
        Due.about(DOCUMENT.toString());
        if (!Files.exists(DOCUMENT)) {
            System.out.println("no " + DOCUMENT + " here, so the quotes are not compared with it");
            return;
        }
        String document = Files.readString(DOCUMENT);
        for (Map.Entry<String, List<String>> under : QUOTED.entrySet()) {
            String left = textUnder(document, under.getKey());
            for (String sentence : under.getValue()) {
                Due.is(under.getKey() + " has '" + sentence + "'", true, left.contains(sentence));
                left = left.replace(sentence, "");
            }
            Due.same("what has no test under " + under.getKey(), "", left.trim());
        }
    }

    /** Without the line that only repeats the call's face. */
    private static String textUnder(String document, String heading) {
        String start = "## " + heading + "\n";
        int from = document.indexOf(start);
        if (from < 0) {
            return "";
        }
        int to = document.indexOf("\n## ", from + 1);
        String text = document.substring(from + start.length(), to < 0 ? document.length() : to);
        return text.replaceAll("`[^`]*`:", " ").replaceAll("\\s+", " ");
    }
}
