import java.io.IOException;
import java.nio.file.DirectoryStream;
import java.nio.file.Files;
import java.nio.file.Path;
import java.util.Arrays;
import java.util.regex.Matcher;
import java.util.regex.Pattern;

/**
 * Each word of the document's terms and promises is quoted by an *EdgesTest as a sentence that answers
 * are due by, so that no sentence goes without a test.
 */
public final class DocumentTest {
    private static final Pattern QUOTED =
            Pattern.compile("check\\.sentence\\(\"([^\"]+)\",\\s*((?:\"[^\"]*\"[\\s+]*)+)\\)");
    private static final Pattern SIGNATURE = Pattern.compile("(?m)^`[^`\n]*`:");
    private static final Pattern NUMBER_OF_TERM = Pattern.compile("(?m)^[1-6]\\. |^```text$");
    private static final Pattern HEADING = Pattern.compile("(?m)^## .*$");
    private static final Check check = new Check();

    private static final Document document = new Document();
    private static final boolean[] quoted = new boolean[document.words.length()];

    public static void main(String[] args) throws IOException {
        mark(SIGNATURE);
        mark(NUMBER_OF_TERM);
        mark(HEADING);
        try (DirectoryStream<Path> tests = Files.newDirectoryStream(Path.of("src/test/java"), "*EdgesTest.java")) {
            for (Path test : tests) {
                markQuoted(Files.readString(test));
            }
        }
        int start = document.start("Terms");
        int end = document.start("Not promised");
        check.due("the document has terms and promises", start >= 0 && end > start, true);
        for (int at = start; at < end; at++) {
            if (!quoted[at] && Character.isLetterOrDigit(document.words.charAt(at))) {
                int to = at;
                while (to < end && !quoted[to]) {
                    to++;
                }
                check.due("no test quotes '" + document.words.substring(at, to) + "', which", false, true);
                at = to;
            }
        }
        check.finish();
    }

    private static void mark(Pattern pattern) {
        Matcher m = pattern.matcher(document.words);
        while (m.find()) {
            Arrays.fill(quoted, m.start(), m.end(), true);
        }
    }

    private static void markQuoted(String source) {
        Matcher m = QUOTED.matcher(source);
        while (m.find()) {
            String words = m.group(2).replaceAll("\"\\s*\\+\\s*\"", "").replaceAll("^\"|\"\\s*$", "");
            int at = document.find(m.group(1), words);
            if (at >= 0) {
                Arrays.fill(quoted, at, at + words.length(), true);
            }
        }
    }
}
