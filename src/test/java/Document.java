import java.io.IOException;
import java.nio.file.Files;
import java.nio.file.Path;
import java.util.ArrayList;
import java.util.List;

/** The sentences of the document, and which of their words a test has named. */
final class Document {

    private static final Path PLACE = Path.of("../shared/DOC.md");

    private static final class Line {
        final int promise;
        final String text;
        final boolean[] named;

        Line(int promise, String text) {
            this.promise = promise;
            this.text = text;
            this.named = new boolean[text.length()];
        }

        boolean name(String words) {
            int at = text.indexOf(words);
            boolean found = at >= 0;
            for (; at >= 0; at = text.indexOf(words, at + 1)) {
                for (int i = 0; i < words.length(); i++) {
                    named[at + i] = true;
                }
            }
            return found;
        }

        String unnamed() {
            StringBuilder rest = new StringBuilder();
            for (int i = 0; i < text.length(); i++) {
                rest.append(named[i] ? ' ' : text.charAt(i));
            }
            String words = rest.toString().strip();
            return words.matches(".*\\w.*") ? words.replaceAll("\\s+", " ") : "";
        }
    }

    private final List<Line> lines = new ArrayList<>();

    /** What is said ahead of the promises is kept as that of promise 0. */
    Document() throws IOException {
        int promise = 0;
        boolean isCode = false;
        for (String line : Files.readString(PLACE).split("\n")) {
            if (line.startsWith("## Not promised")) {
                return;
            }
            if (line.startsWith("```")) {
                isCode = !isCode;
            } else if (line.startsWith("## Promise ")) {
                promise = Integer.parseInt(line.replaceAll("## Promise (\\d+):.*", "$1"));
            } else if (!isCode && isSentence(line)) {
                lines.add(new Line(promise, line.replaceFirst("^`[^`]*\\)`: ", "").replaceFirst("^- ", "")));
            }
        }
    }

    /** Not so are titles, the first paragraph, which names no boundary, and what heads the calls' groups. */
    private static boolean isSentence(String line) {
        return line.matches(".*[a-z].*") && !line.startsWith("#") && !line.startsWith("Kites on strings that are registers:")
                && !line.startsWith("Ahead of the calls ");
    }

    /** Whether the words stand in that promise, or else ahead of the promises. */
    boolean name(int promise, String words) {
        return nameIn(promise, words) || nameIn(0, words);
    }

    private boolean nameIn(int promise, String words) {
        boolean found = false;
        for (Line line : lines) {
            if (line.promise == promise) {
                found |= line.name(words);
            }
        }
        return found;
    }

    List<String> unnamed() {
        List<String> all = new ArrayList<>();
        for (Line line : lines) {
            if (!line.unnamed().isEmpty()) {
                all.add("promise " + line.promise + ": " + line.unnamed());
            }
        }
        return all;
    }
}
