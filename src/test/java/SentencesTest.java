import java.io.IOException;
import java.nio.file.Files;
import java.nio.file.Path;
import java.util.LinkedHashMap;
import java.util.Map;

/** What the tests name stands in the document, and each word of the terms and the promises is named by a test. */
public final class SentencesTest {
    private static final Path DOCUMENT = Path.of("..", "shared", "DOC.md");

    public static void main(String[] args) throws IOException {
        BoundsTest.all();
        SplitTest.all();
        TakesTest.all();
        WaitsTest.all();
        RowsTest.all();
        AsksTest.all();
        EndsTest.all();
        RecoveryTest.all();
        Check.noSentence();
        if (Files.exists(DOCUMENT)) {
            dueNamed(sections(Files.readString(DOCUMENT)));
        } else {
            System.out.println(DOCUMENT + " is not here: what the tests name is not looked up");
        }
        Check.finish();
    }

    /** The text behind each heading, on one line, without the face of the method. */
    private static Map<String, String> sections(String document) {
        Map<String, String> sections = new LinkedHashMap<>();
        for (String part : document.split("(?m)^## ")) {
            int end = part.indexOf('\n');
            if (end < 0) {
                continue;
            }
            String name = part.substring(0, end).replaceFirst(":.*", "").trim();
            String text = part.substring(end).replaceAll("\\s+", " ").trim();
            sections.put(name, text.replaceFirst("^`[^`]*`: ", ""));
        }
        return sections;
    }

    private static void dueNamed(Map<String, String> sections) {
        Map<String, StringBuilder> unnamed = new LinkedHashMap<>();
        sections.forEach((name, text) -> unnamed.put(name, new StringBuilder(text)));
        for (String[] sentence : Check.sentences()) {
            String text = sections.getOrDefault(sentence[0], "");
            Check.due(sentence[0] + " says '" + sentence[1] + "'", text.contains(sentence[1]), true);
            for (int at = text.indexOf(sentence[1]); at >= 0; at = text.indexOf(sentence[1], at + 1)) {
                blank(unnamed.get(sentence[0]), at, at + sentence[1].length());
            }
        }
        unnamed.forEach((name, text) -> {
            if (name.equals("Terms") || name.startsWith("Promise ")) {
                String rest = text.toString().replaceAll("[^A-Za-z0-9]+", " ").trim();
                Check.due("words of " + name + " that no test names: '" + rest + "'", rest.length(), 0);
            }
        });
        for (int promise = 1; promise <= 18; promise++) {
            Check.due("there is a promise " + promise, sections.containsKey("Promise " + promise), true);
        }
    }

    private static void blank(StringBuilder text, int from, int to) {
        for (int at = from; at < to; at++) {
            text.setCharAt(at, ' ');
        }
    }
}
