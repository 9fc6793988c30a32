import java.io.IOException;
import java.nio.file.Files;
import java.nio.file.Path;

/** Goes through a part of the document from its first word to its last, so that no sentence of it is passed over. */
final class Walk {
    private static final Path DOC = Path.of("..", "shared", "DOC.md");
    private final Due due;
    private String rest;

    /** From one heading up to the next one told; what only marks up the text is left out. */
    Walk(Due due, String from, String to) throws IOException {
        this.due = due;
        String all = Files.readString(DOC);
        int begin = all.indexOf("\n## " + from);
        int end = all.indexOf("\n## " + to);
        due.holds("the document has " + from + " ahead of " + to, begin >= 0 && end > begin);
        rest = begin < 0 || end < begin ? "" : plain(all.substring(begin, end));
    }

    private static String plain(String text) {
        return text.replaceAll("(?s)```java.*?```", " ").replaceAll("(?m)^## .*$", " ").replaceAll("(?m)^```.*$", " ")
            .replaceAll("(?m)^`[^`]*`:", " ").replace("====", " ").replaceAll("\\s+", " ").trim();
    }

    /** The words that come next in the document; the answers that follow are about them. */
    void says(String words) {
        due.about(words);
        due.holds("these words come next in the document, not: " + head(), rest.startsWith(words));
        rest = rest.startsWith(words) ? rest.substring(words.length()).trim() : rest;
    }

    void end() {
        due.holds("nothing is left, but: " + head(), rest.isEmpty());
    }

    private String head() {
        return rest.substring(0, Math.min(rest.length(), 60));
    }
}
