import java.io.IOException;
import java.nio.file.Files;
import java.nio.file.Path;

/** The document, read on piece by piece, so that none of it is passed over. */
final class Document {
    private final String text;
    private int at;
    private String piece = "";

    Document() throws IOException {
        text = Files.readString(Path.of("../shared/DOC.md")).replaceAll("\\s+", " ").trim();
    }

    /** A piece that stands next in the document, and what would show it broken. */
    Run says(String next, String... rows) {
        read(next);
        return new Run(next, rows);
    }

    /** One more run for the piece that was read last. */
    Run also(String... rows) {
        return new Run(piece, rows);
    }

    /** A piece that tells nothing of its own: a heading, or what is left free. */
    void read(String next) {
        at += text.startsWith(" ", at) ? 1 : 0;
        boolean there = text.startsWith(next, at);
        Check.holds("<" + next + "> stands where the document says <"
            + text.substring(at, Math.min(text.length(), at + next.length())) + ">", there);
        // Behind a piece that isn't there, the next ones are looked for all the same.
        int found = text.indexOf(next, at);
        at = found < 0 ? at : found + next.length();
        piece = next;
    }

    /** All up to that mark, which is not among it. */
    String upTo(String mark) {
        int end = text.indexOf(mark, at);
        Check.holds("the document says " + mark, end >= 0);
        String all = text.substring(at, Math.max(at, end));
        at += all.length();
        return all;
    }

    void end() {
        Check.holds("nothing of the document is left: <" + text.substring(at) + ">", at == text.length());
    }
}
