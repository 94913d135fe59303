import java.lang.reflect.InvocationTargetException;
import java.lang.reflect.Method;
import java.nio.ByteBuffer;
import java.nio.charset.StandardCharsets;
import java.util.ArrayList;
import java.util.Arrays;
import java.util.Comparator;
import java.util.HashMap;
import java.util.List;
import java.util.Map;
import java.util.Random;

/** Runs of up to 512 calls of the whole face, good and bad arguments mixed: each answer is the Model's. */
public final class ModelTest {
    private static final int RUNS = 250;
    private static final int CALLS = 512;
    private static final Check check = new Check();

    /**
     * What each argument is: s a sort, t a text's number, w a what, l a LEDGER's, v that of reached() and
     * cut(), p a PERSON, k a small number, i inches, d how many DEEDS, e the tape's end, f a FINE, x any
     * number, b true or false.
     */
    private static final Map<String, String> ARGUMENTS = Map.ofEntries(
            Map.entry("feed", "xxxxx"), Map.entry("end", "e"), Map.entry("text", "st"), Map.entry("fault", "k"),
            Map.entry("borough", "tw"), Map.entry("deed", "tdk"), Map.entry("stop", "tt"), Map.entry("state", "ttdw"),
            Map.entry("reached", "tiv"), Map.entry("cut", "tiv"), Map.entry("love", "tib"), Map.entry("dares", "tkfk"),
            Map.entry("share", "tpip"), Map.entry("elder", "tpp"), Map.entry("ledger", "tl"), Map.entry("fact", "tdk"),
            Map.entry("rows", "ttkpk"), Map.entry("sure", "ttkp"), Map.entry("drawn", "txdw"),
            Map.entry("family", "tpk"), Map.entry("views", "tk"), Map.entry("shoulders", "ti"), Map.entry("hats", "tb"),
            Map.entry("teams", "tb"), Map.entry("assumed", "tik"), Map.entry("settled", "ttd"), Map.entry("count", "s"),
            Map.entry("image", "k"), Map.entry("again", "k"));

    /** One token of so many is written in another way than most. */
    private static final int PLAIN = 14;

    private static Random random;
    /** The latest BOROUGH's PEOPLE, so that what is told of them is mostly such that can be. */
    private static int people;
    private static final int[] tall = new int[10];

    public static void main(String[] args) throws ReflectiveOperationException {
        List<Method> face = new ArrayList<>();
        for (Method m : HeightFine.class.getDeclaredMethods()) {
            if (ARGUMENTS.containsKey(m.getName())) {
                face.add(m);
            }
        }
        check.due("the methods of the face", face.size(), ARGUMENTS.size());
        // The order in which the machine tells the methods is its own.
        face.sort(Comparator.comparing(Method::getName));
        Map<String, Integer> compared = new HashMap<>();
        for (int run = 0; run < RUNS; run++) {
            random = new Random(run);
            play(run, face, compared);
        }
        for (Method m : face) {
            check.due(m.getName() + " was compared", compared.getOrDefault(m.getName(), 0) > 0, true);
        }
        check.finish();
    }

    private static void play(int run, List<Method> face, Map<String, Integer> compared) throws ReflectiveOperationException {
        HeightFine x = new HeightFine();
        Model model = new Model();
        StringBuilder told = new StringBuilder("run " + run + ": ");
        people = random.nextInt(9);
        int calls = 0;
        int texts = 0;
        while (calls < CALLS - 40) {
            if (texts < 8 || random.nextInt(40) == 0) {
                int sort = texts < 8 ? texts % 4 : random.nextInt(4);
                String text = textOf(sort);
                texts++;
                told.append(sort).append(" '").append(text).append("' ");
                calls += tell(told.toString(), x, model, sort, text);
            }
            Method m = face.get(random.nextInt(face.size()));
            if (!m.getName().matches("text|image|again") || random.nextInt(8) == 0) {
                Object[] arguments = argumentsOf(m.getName());
                long due = answer(Model.class.getDeclaredMethod(m.getName(), m.getParameterTypes()), model, arguments);
                long got = answer(m, x, arguments);
                String call = m.getName() + Arrays.toString(arguments);
                if (due != Model.TOO_MANY) {
                    check.due(told + call, got, due);
                    compared.merge(m.getName(), 1, Integer::sum);
                }
                if (m.getName().matches("text|image|again")) {
                    told.append(call).append(' ');
                    check.due(told + "fault", x.fault(0), model.fault(0));
                    check.due(told + "its place", x.fault(1), model.fault(1));
                    calls += 2;
                }
                calls++;
            }
        }
    }

    private static long answer(Method m, Object of, Object[] arguments) throws ReflectiveOperationException {
        try {
            Object answer = m.invoke(of, arguments);
            return answer instanceof Boolean ? (Boolean) answer ? 1 : 0 : ((Number) answer).longValue();
        } catch (InvocationTargetException e) {
            throw new IllegalStateException(m.getName() + Arrays.toString(arguments), e.getCause());
        }
    }

    private static int tell(String told, HeightFine x, Model model, int sort, String text) {
        check.due(told + "end", x.end(0), model.end(0));
        Check.feed(x, text);
        ByteBuffer bytes = ByteBuffer.allocate((text.length() + 19) / 20 * 20);
        bytes.put(text.getBytes(StandardCharsets.ISO_8859_1)).rewind();
        while (bytes.hasRemaining()) {
            model.feed(bytes.getInt(), bytes.getInt(), bytes.getInt(), bytes.getInt(), bytes.getInt());
        }
        model.end(text.length());
        int at = random.nextInt(3) == 0 ? random.nextInt(2) : HeightFine.NONE;
        check.due(told + "text at " + at, x.text(sort, at), model.text(sort, at));
        check.due(told + "fault", x.fault(0), model.fault(0));
        check.due(told + "its place", x.fault(1), model.fault(1));
        return 6 + text.length() / 20;
    }

    private static Object[] argumentsOf(String name) {
        String kinds = ARGUMENTS.get(name);
        Object[] arguments = new Object[kinds.length()];
        for (int k = 0; k < arguments.length; k++) {
            arguments[k] = kinds.charAt(k) == 'b' ? (Object) random.nextBoolean() : (Object) number(kinds.charAt(k));
        }
        return arguments;
    }

    private static int number(char kind) {
        if (random.nextInt(100) == 0) {
            int[] far = {Integer.MIN_VALUE, Integer.MIN_VALUE + 10, -3, -2, 8, 9, 60, 61, 99, 100, Integer.MAX_VALUE};
            return far[random.nextInt(far.length)];
        }
        return switch (kind) {
            case 's' -> random.nextInt(6) - 1;
            case 't' -> random.nextInt(12) == 0 ? random.nextInt(4) - 1 : random.nextInt(2);
            case 'w' -> random.nextInt(3) == 0 ? random.nextInt(103)
                    : 10 * random.nextInt(3) + random.nextInt(random.nextInt(5) == 0 ? 10 : 4);
            case 'l' -> random.nextBoolean() ? random.nextInt(4) : number('w');
            case 'v' -> random.nextInt(3) == 0 ? random.nextInt(18) - 1 : 10 * random.nextInt(2) + random.nextInt(2);
            case 'p' -> random.nextInt(6) == 0 ? random.nextInt(10) - 1 : random.nextInt(Math.max(1, people));
            case 'k' -> random.nextInt(6) == 0 ? random.nextInt(11) - 1 : random.nextInt(5);
            case 'd' -> random.nextInt(8) == 0 ? random.nextInt(63) - 1 : random.nextInt(5);
            case 'i' -> random.nextInt(3) == 0 ? random.nextInt(102) - 1 : random.nextInt(14);
            case 'f' -> random.nextInt(11);
            case 'e' -> random.nextInt(640) - 20;
            default -> random.nextInt();
        };
    }

    private static int person() {
        boolean another = random.nextInt(80) == 0;
        return another ? random.nextInt(9) : random.nextInt(Math.max(1, Math.min(8, people)));
    }

    private static int within(int least, int greatest) {
        return random.nextInt(150) == 0 ? random.nextInt(102) : least + random.nextInt(greatest - least + 1);
    }

    /** Mostly a good text, of which a byte is changed now and then, or the end is missing. */
    private static String textOf(int sort) {
        StringBuilder s = new StringBuilder();
        if (sort == 0) {
            people = random.nextInt(12) == 0 ? random.nextInt(10) : random.nextInt(9);
            int tallest = random.nextBoolean() ? 12 : 99;
            for (int k = 0; k < people; k++) {
                tall[k] = within(1, tallest);
                line(s, "person", tall[k]);
            }
            for (int k = random.nextInt(6); k > 2; k--) {
                line(s, "door", within(1, tallest));
                line(s, "work", within(1, tallest));
            }
        }
        int[] mostLines = {20, random.nextInt(5) == 0 ? 43 : 9, 16, 4};
        int lines = random.nextInt(mostLines[sort]);
        for (int k = 0; k < lines && s.length() < 560; k++) {
            switch (sort) {
                case 0 -> boroughLine(s);
                case 1 -> yearLine(s);
                case 2 -> ledgerLine(s);
                default -> factLine(s);
            }
        }
        if (s.length() > 0 && random.nextInt(8) == 0) {
            char[] signs = {' ', '\n', ';', '0', '9', 'a', 'z', '`', '{', '/', ':', 9, 13, 0, 255, 'N', 'O', '|'};
            char sign = signs[random.nextInt(signs.length)];
            int at = random.nextInt(s.length());
            if (random.nextBoolean()) {
                s.setCharAt(at, sign);
            } else {
                s.insert(at, sign);
            }
        }
        if (random.nextInt(30) == 0) {
            s.setLength(random.nextInt(s.length() + 1));
        }
        return s.toString();
    }

    private static void line(StringBuilder s, String word, Object... rest) {
        s.append(random.nextInt(PLAIN) == 0 ? "\n " : "").append(word);
        for (Object one : rest) {
            boolean twoDigits = one instanceof Integer && (Integer) one < 10 && random.nextInt(PLAIN) == 0;
            s.append(random.nextInt(PLAIN) == 0 ? "\n" : " ").append(twoDigits ? "0" : "").append(one);
        }
        s.append(random.nextInt(PLAIN) == 0 ? " ;" : ";");
    }

    private static String offence() {
        return Lines.OFFENCES[random.nextInt(4)];
    }

    private static void boroughLine(StringBuilder s) {
        switch (random.nextInt(11)) {
            case 0 -> line(s, "poor", person());
            case 1 -> line(s, "caught", within(0, 10));
            case 2 -> line(s, "door", within(1, 12));
            case 3 -> line(s, "work", within(1, 20));
            case 4, 5 -> child(s);
            case 6, 8, 9 -> pass(s);
            case 7 -> line(s, "costs", offence(), within(1, 9));
            default -> line(s, "wish", person(), offence(), within(0, 6));
        }
    }

    /** PARENTS mostly have the lesser number, so that they rarely go round. */
    private static void child(StringBuilder s) {
        int p = person();
        if (p > 0 || random.nextInt(40) == 0) {
            line(s, "child", p, random.nextInt(40) == 0 ? person() : random.nextInt(Math.max(1, p)));
        }
    }

    private static void pass(StringBuilder s) {
        int doors = s.toString().split("door", -1).length - 1;
        if (doors > 0 || random.nextInt(40) == 0) {
            line(s, "pass", person(), random.nextInt(80) == 0 ? random.nextInt(7) : random.nextInt(Math.max(1, doors)));
        }
    }

    private static void yearLine(StringBuilder s) {
        int p = person();
        switch (random.nextInt(5)) {
            case 0 -> line(s, "fine", p, offence());
            case 1 -> line(s, "bail", p, offence());
            case 2 -> line(s, "give", p, within(1, 6));
            case 3 -> line(s, "stretch", p, within(1, 6));
            default -> line(s, "gift", p, people > 1 ? (p + 1) % people : 7, within(1, 6));
        }
    }

    /** Mostly of one who lost little. */
    private static void factLine(StringBuilder s) {
        int p = person();
        line(s, "tall", p, random.nextInt(20) == 0 ? within(1, 99) : Math.max(1, tall[p] - random.nextInt(4)));
    }

    private static void ledgerLine(StringBuilder s) {
        if (random.nextInt(5) == 0) {
            line(s, "owed", within(0, 14));
        } else {
            line(s, "got", within(0, 7), within(0, 6));
        }
    }
}
