import java.nio.file.Files;
import java.nio.file.Path;
import java.util.ArrayList;
import java.util.List;

/** The document's sentences: those of "Terms", and the rows of each promise. */
final class Doc {
    private static final Path FILE = Path.of("../shared/DOC.md");

    private Doc() {
    }

    /** What a promise says of its call, of each argument, of what it returns, and of each exception. */
    static List<String> rows(int promise) throws Exception {
        List<String> rows = new ArrayList<>();
        boolean isInside = false;
        for (String line : Files.readAllLines(FILE)) {
            if (line.startsWith("## ")) {
                isInside = line.startsWith("## Promise " + promise + ":");
            } else if (isInside && line.startsWith("`")) {
                rows.add(line.substring(line.indexOf("`: ") + 3));
            } else if (isInside && !line.isEmpty()) {
                rows.add(line);
            }
        }
        return rows;
    }

    /** The sentences of "Terms" ahead of the examples, without the headings of one word. */
    static List<String> terms() throws Exception {
        String text = Files.readString(FILE);
        String terms = text.substring(text.indexOf("## Terms") + 8, text.indexOf("Examples:"));
        List<String> sentences = new ArrayList<>();
        for (String sentence : terms.replace("<p>", "").trim().split("(?<=\\.)\\s+")) {
            String told = sentence.replaceAll("\\s+", " ");
            if (told.contains(" ")) {
                sentences.add(told);
            }
        }
        return sentences;
    }
}
