import java.io.IOException;
import java.lang.reflect.Method;
import java.nio.ByteBuffer;
import java.nio.charset.StandardCharsets;
import java.nio.file.DirectoryStream;
import java.nio.file.Files;
import java.nio.file.Path;
import java.util.Arrays;
import java.util.regex.Matcher;
import java.util.regex.Pattern;

/** The run of calls in README.md answers as it says there, and its table has each test. */
public final class ReadmeTest {
    private static final String NEW = "HeightFine x = new HeightFine();";
    private static final Pattern CALL = Pattern.compile("x\\.([a-z]+)\\(([^()]*)\\); // (-?[0-9]+|NONE|true|false)");
    private static final Pattern QUOTED = Pattern.compile("\"([^\"]*)\"");
    private static final int MOST_CALLS = 512;
    private static final Check check = new Check();

    private static HeightFine x;
    /** The text that the latest comment quotes, and the bytes that were fed since the latest text(). */
    private static String quoted = "";
    private static String fed = "";

    public static void main(String[] args) throws IOException, ReflectiveOperationException {
        String readme = Files.readString(Path.of("README.md"));
        theRun(readme);
        theFace(readme);
        theTable(readme);
        check.due("README.md says .ci/run", readme.contains("\n.ci/run\n"), true);
        check.finish();
    }

    private static void theRun(String readme) throws ReflectiveOperationException {
        int start = readme.indexOf("```java\n");
        int end = readme.indexOf("\n```\n", start);
        check.due("README.md has one run", start >= 0 && end > start && readme.indexOf("```java", end) < 0, true);
        String[] lines = readme.substring(start, end).split("\n");
        int calls = 0;
        for (int k = 1; k < lines.length; k++) {
            Matcher call = CALL.matcher(lines[k]);
            Matcher text = QUOTED.matcher(lines[k]);
            if (lines[k].equals(NEW)) {
                x = new HeightFine();
            } else if (call.matches()) {
                answer(call.group(1), call.group(2).split(", "), call.group(3));
                calls++;
            } else if (lines[k].startsWith("//")) {
                quoted = text.find() ? text.group(1) : quoted;
            } else {
                check.due("'" + lines[k] + "' is blank", lines[k].isBlank(), true);
            }
        }
        check.due("README.md has calls", calls > 0 && calls <= MOST_CALLS, true);
    }

    private static void answer(String name, String[] words, String due) throws ReflectiveOperationException {
        Object[] arguments = new Object[words.length];
        for (int k = 0; k < words.length; k++) {
            arguments[k] = value(words[k].replace("HeightFine.", ""));
        }
        for (Method m : HeightFine.class.getDeclaredMethods()) {
            if (m.getName().equals(name)) {
                follow(name, arguments);
                Object got = m.invoke(x, arguments);
                String call = "README.md: " + name + Arrays.toString(arguments);
                check.due(call, got instanceof Boolean ? (Boolean) got ? 1 : 0 : ((Number) got).longValue(), number(due));
                return;
            }
        }
        check.due("there is a call " + name, false, true);
    }

    private static Object value(String word) {
        return word.equals("true") || word.equals("false") ? (Object) Boolean.valueOf(word) : (Object) (int) number(word);
    }

    private static long number(String word) {
        return switch (word) {
            case "NONE" -> HeightFine.NONE;
            case "true" -> 1;
            case "false" -> 0;
            default -> Long.decode(word);
        };
    }

    /** The bytes that are taken as a text are those that the comment above quotes. */
    private static void follow(String name, Object[] arguments) {
        if (name.equals("feed")) {
            ByteBuffer bytes = ByteBuffer.allocate(20);
            for (Object one : arguments) {
                bytes.putInt((Integer) one);
            }
            fed += new String(bytes.array(), StandardCharsets.ISO_8859_1);
        } else if (name.equals("end")) {
            fed = fed.substring(0, (Integer) arguments[0]);
        } else if (name.equals("text")) {
            check.due("README.md: '" + fed + "' is '" + quoted + "'", fed.equals(quoted), true);
            fed = "";
        }
    }

    private static void theFace(String readme) {
        for (Method m : HeightFine.class.getMethods()) {
            if (m.getDeclaringClass() == HeightFine.class) {
                boolean told = Pattern.compile("`" + m.getName() + "[`(]").matcher(readme).find();
                check.due("README.md tells of " + m.getName(), told, true);
            }
        }
    }

    private static void theTable(String readme) throws IOException {
        try (DirectoryStream<Path> tests = Files.newDirectoryStream(Path.of("src/test/java"), "*Test.java")) {
            for (Path test : tests) {
                String name = test.getFileName().toString().replace(".java", "");
                check.due("README.md has " + name, readme.contains("\n| " + name + " |"), true);
            }
        }
    }
}
