import java.io.IOException;
import java.io.UncheckedIOException;
import java.nio.file.Files;
import java.nio.file.Path;

/** The words of ../shared/DOC.md, and where they stand. */
final class Document {
    final String words;

    Document() {
        try {
            words = Files.readString(Path.of("../shared/DOC.md"));
        } catch (IOException e) {
            throw new UncheckedIOException(e);
        }
    }

    /** Where a part begins, by its heading or what stands before the heading's colon, or -1. */
    int start(String part) {
        return Math.max(words.indexOf("\n## " + part + "\n"), words.indexOf("\n## " + part + ":"));
    }

    /** Where some words stand within a part, or -1. */
    int find(String part, String some) {
        int start = start(part);
        int next = start < 0 ? start : words.indexOf("\n## ", start + 1);
        int at = start < 0 ? start : words.indexOf(some, start);
        return at < 0 || next >= 0 && at + some.length() > next ? -1 : at;
    }
}
