import java.io.IOException;
import java.nio.file.Files;
import java.nio.file.Path;
import java.util.ArrayList;
import java.util.List;
import java.util.regex.Matcher;
import java.util.regex.Pattern;

/** The words of the document, and which of them tests have quoted. */
final class Document {
    private static final Path PLACE = Path.of("..", "shared", "DOC.md");

    private final String text;
    private final boolean[] quoted;

    private Document(String text) {
        this.text = text;
        quoted = new boolean[text.length()];
    }

    static Document read() throws IOException {
        return new Document(Files.readString(PLACE));
    }

    /** Where the part under a heading that begins so is: from its first sign on, up to the next heading. */
    private int[] bounds(String heading) {
        Matcher head = Pattern.compile("(?m)^## " + Pattern.quote(heading) + "\\b.*$").matcher(text);
        if (!head.find()) return new int[] {0, 0};
        int next = text.indexOf("\n## ", head.end());
        return new int[] {head.end(), next < 0 ? text.length() : next};
    }

    boolean quote(String heading, String words) {
        int[] in = bounds(heading);
        boolean found = false;
        int at = text.indexOf(words, in[0]);
        while (at >= 0 && at + words.length() <= in[1]) {
            found = true;
            for (int i = at; i < at + words.length(); i++) quoted[i] = true;
            at = text.indexOf(words, at + 1);
        }
        return found;
    }

    /** What in a part matches and was not quoted whole, each with some words around it. */
    List<String> unquoted(String heading, String edges) {
        int[] in = bounds(heading);
        List<String> missing = new ArrayList<>();
        Matcher edge = Pattern.compile(edges).matcher(text).region(in[0], in[1]);
        while (edge.find()) {
            if (!isQuoted(edge.start(), edge.end())) {
                missing.add(text.substring(Math.max(in[0], edge.start() - 40), Math.min(in[1], edge.end() + 20)).replace('\n', ' '));
            }
        }
        return missing;
    }

    private boolean isQuoted(int from, int to) {
        for (int i = from; i < to; i++) if (!quoted[i]) return false;
        return true;
    }
}
