import java.io.IOException;
import java.lang.reflect.Constructor;
import java.lang.reflect.Field;
import java.lang.reflect.Method;
import java.lang.reflect.Modifier;
import java.nio.file.Files;
import java.nio.file.Path;
import java.util.ArrayList;
import java.util.Arrays;
import java.util.List;
import java.util.Set;
import java.util.TreeSet;
import java.util.regex.Matcher;
import java.util.regex.Pattern;

/** The rules of LANGUAGE.md that can be looked up: the face, words that may not stand, sizes. */
public final class LanguageTest {
    private static final Check check = new Check();
    private static final String FACE = "again(int) assumed(int,int,int) borough(int,int) count(int) cut(int,int,int) "
            + "dares(int,int,int,int) deed(int,int,int) drawn(int,int,int,int) elder(int,int,int) end(int) "
            + "fact(int,int,int) family(int,int,int) fault(int) feed(int,int,int,int,int) hats(int,boolean) "
            + "image(int) ledger(int,int) love(int,int,boolean) reached(int,int,int) rows(int,int,int,int,int) "
            + "settled(int,int,int) share(int,int,int,int) shoulders(int,int) state(int,int,int,int) stop(int,int) "
            + "sure(int,int,int,int) teams(int,boolean) text(int,int) views(int,int)";
    private static final Set<String> LIBRARY = Set.of("Arrays.fill", "Integer.bitCount", "Math.abs", "Math.max",
            "Math.min", "System.arraycopy");

    public static void main(String[] args) throws IOException {
        face();
        members();
        String source = Files.readString(Path.of("src/main/java/HeightFine.java"));
        words(source);
        check.finish();
    }

    private static void face() {
        Set<String> found = new TreeSet<>();
        for (Method m : HeightFine.class.getDeclaredMethods()) {
            if (!Modifier.isPrivate(m.getModifiers())) {
                List<String> names = new ArrayList<>();
                for (Class<?> one : m.getParameterTypes()) {
                    names.add(one.getName());
                }
                found.add(m.getName() + "(" + String.join(",", names) + ")");
                check.due(m.getName() + " is public and no static one",
                        Modifier.isPublic(m.getModifiers()) && !Modifier.isStatic(m.getModifiers()), true);
                Class<?> due = m.getName().equals("rows") || m.getName().equals("views") ? long.class
                        : m.getName().equals("image") || m.getName().equals("again") ? boolean.class : int.class;
                check.due(m.getName() + " answers " + due, m.getReturnType() == due, true);
            }
        }
        check.due("the face: " + found, found.equals(new TreeSet<>(Arrays.asList(FACE.split(" ")))), true);
        Constructor<?>[] made = HeightFine.class.getDeclaredConstructors();
        check.due("one constructor", made.length, 1);
        check.due("a public one, of nothing",
                Modifier.isPublic(made[0].getModifiers()) && made[0].getParameterCount() == 0, true);
        check.due("final", Modifier.isFinal(HeightFine.class.getModifiers()), true);
    }

    private static void members() {
        Set<String> publicNames = new TreeSet<>();
        for (String one : FACE.split(" ")) {
            publicNames.add(one.substring(0, one.indexOf('(')));
        }
        for (Field f : HeightFine.class.getDeclaredFields()) {
            check.due(f.getName() + " is private", f.getName().equals("NONE") || Modifier.isPrivate(f.getModifiers()), true);
        }
        Class<?>[] inside = HeightFine.class.getDeclaredClasses();
        check.due("at most twelve classes", inside.length + 1 <= 12, true);
        for (Class<?> c : inside) {
            check.due(c + " is static", Modifier.isStatic(c.getModifiers()), true);
            int fields = 0;
            for (Field f : c.getDeclaredFields()) {
                boolean constant = Modifier.isStatic(f.getModifiers());
                check.due(f + ": static is final", constant && !Modifier.isFinal(f.getModifiers()), false);
                fields += constant ? 0 : 1;
            }
            check.due(c + " has few fields", fields <= 20, true);
            for (Method m : c.getDeclaredMethods()) {
                check.due(c + "." + m.getName() + " bears a name of the face", publicNames.contains(m.getName()), false);
                check.due(c + "." + m.getName() + " takes at most seven", m.getParameterCount() <= 7, true);
            }
        }
    }

    private static void words(String source) {
        String code = source.replaceAll("(?s)/\\*.*?\\*/", "").replaceAll("//[^\n]*", "");
        String[] never = {"throw", "throws", "try", "catch", "synchronized", "assert", "package", "protected", "native",
            "volatile", "Exact", "System\\.(?!arraycopy)", "->", "::", "double", "float", "var", "Object", "yield"};
        for (String word : never) {
            boolean plain = word.matches("[a-zA-Z]+");
            Matcher m = Pattern.compile(plain ? "\\b" + word + "\\b" : word).matcher(code);
            check.due("'" + word + "' stands in the program", m.find(), false);
        }
        Matcher imports = Pattern.compile("import ([^;]*);").matcher(code);
        while (imports.find()) {
            check.due("import " + imports.group(1), imports.group(1).equals("java.util.Arrays"), true);
        }
        Matcher library = Pattern.compile("\\b(?!HeightFine\\b)[A-Z][a-z]+[A-Za-z]*\\.[A-Za-z]+").matcher(code);
        while (library.find()) {
            check.due("the library has " + library.group() + " for the program", LIBRARY.contains(library.group()), true);
        }
        int longest = 0;
        int start = 0;
        String[] lines = source.split("\n");
        for (int k = 0; k < lines.length; k++) {
            if (lines[k].matches("( {4}| {8})[a-z].*\\) \\{")) {
                start = k;
            }
            if (lines[k].matches("( {4}| {8})\\}")) {
                longest = Math.max(longest, k - start + 1);
            }
            check.due("line " + (k + 1) + " is short", lines[k].length() <= 120, true);
            check.due("line " + (k + 1) + " has plain signs", lines[k].matches("[ -~]*"), true);
        }
        check.due("methods are short: " + longest, longest <= 60, true);
    }
}
