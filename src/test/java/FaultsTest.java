import java.util.Random;
import java.util.regex.Matcher;
import java.util.regex.Pattern;

/** Random texts, many of them wrong; the FAULT is found by patterns over the whole text. */
public final class FaultsTest {
    private static final int NONE = HeightFine.NONE;
    private static final Check check = new Check();
    private static final Random random = new Random(7);

    private static final String NUMBER = Lines.NUMBER;
    private static final String[][][] LINES = Lines.BY_SORT;
    private static final String[] CHILD = LINES[0][5];
    private static final String[] OFFENCES = Lines.OFFENCES;

    private static int dueFault;
    private static int duePlace;

    public static void main(String[] args) {
        int[] met = new int[7];
        for (int round = 0; round < 60000; round++) {
            int sort = random.nextInt(4);
            String text = spoil(randomText(sort), random.nextInt(3) == 0);
            find(sort, text);
            met[dueFault]++;
            check.faulty(sort, text, dueFault, duePlace);
        }
        for (int fault = 0; fault < 7; fault++) {
            check.due("FAULT " + fault + " was met often", met[fault] > 100, true);
        }
        check.finish();
    }

    private static String randomText(int sort) {
        StringBuilder s = new StringBuilder();
        int people = sort == 0 ? random.nextInt(9) : 7;
        int lines = random.nextInt(random.nextInt(6) == 0 ? 45 : 8);
        boolean children = sort == 0 && random.nextInt(2) == 0;
        for (int p = 0; p < people && sort == 0; p++) {
            s.append("person ").append(1 + random.nextInt(99)).append(';');
        }
        for (int k = 0; k < lines; k++) {
            String[] line = children ? CHILD : LINES[sort][random.nextInt(LINES[sort].length)];
            StringBuilder one = new StringBuilder(line[0]);
            for (int slot = 1; slot < line.length; slot++) {
                boolean wide = !children && random.nextInt(3) == 0;
                int most = random.nextInt(12) == 0 ? 12 : wide ? 8 : Math.max(1, people);
                String number = (random.nextInt(20) == 0 ? "0" : "") + random.nextInt(most);
                one.append(' ').append(line[slot].equals(NUMBER) ? number : OFFENCES[random.nextInt(4)]);
            }
            one.append(';');
            if (s.length() + one.length() < 590) {
                s.append(one);
            }
        }
        return s.toString();
    }

    private static String spoil(String text, boolean really) {
        if (!really || text.isEmpty()) {
            return text;
        }
        StringBuilder s = new StringBuilder(text);
        String signs = "  \n;0a9z#A\u00ff\t";
        int at = random.nextInt(s.length());
        switch (random.nextInt(4)) {
            case 0 -> s.insert(at, signs.charAt(random.nextInt(signs.length())));
            case 1 -> s.deleteCharAt(at);
            case 2 -> s.setCharAt(at, signs.charAt(random.nextInt(signs.length())));
            default -> s.setLength(at);
        }
        return s.toString();
    }

    private static final Pattern TOKEN = Pattern.compile("[ \\n]*(?:([a-z]+)|(?<![0-9])([0-9]{1,2})(?![0-9])|(;)|$)");

    private static void find(int sort, String text) {
        dueFault = 0;
        duePlace = NONE;
        int[] counts = new int[5];
        int people = 0;
        int doors = 0;
        int[] parents = {NONE, NONE, NONE, NONE, NONE, NONE, NONE, NONE};
        int at = 0;
        int[] place = new int[6];
        while (true) {
            Matcher token = TOKEN.matcher(text);
            String[] line = null;
            int[] value = new int[6];
            int slot = 0;
            boolean over = false;
            for (; slot < 6; slot++) {
                boolean any = token.region(at, text.length()).useTransparentBounds(true).lookingAt();
                int start = at;
                while (start < text.length() && (text.charAt(start) == ' ' || text.charAt(start) == '\n')) {
                    start++;
                }
                place[slot] = start;
                String word = any ? token.group(1) : null;
                String number = any ? token.group(2) : null;
                boolean good = any;
                if (slot == 0) {
                    if (any && start == text.length()) {
                        over = true;
                        break;
                    }
                    for (String[] one : LINES[sort]) {
                        line = one[0].equals(word) ? one : line;
                    }
                    good = line != null;
                } else if (slot == line.length) {
                    if (!any || token.group(3) == null) {
                        dueFault = 1;
                        duePlace = start;
                        return;
                    }
                    at = token.end();
                    break;
                } else if (line[slot].equals(NUMBER)) {
                    good = number != null;
                    value[slot] = good ? Integer.parseInt(number) : 0;
                } else {
                    value[slot] = java.util.Arrays.asList(OFFENCES).indexOf(word);
                    good = value[slot] >= 0;
                }
                if (!good) {
                    dueFault = 1;
                    duePlace = start;
                    return;
                }
                at = token.end();
            }
            if (over) {
                break;
            }
            count(line[0], counts, place[0]);
            ranges(line, value, place);
            switch (line[0]) {
                case "poor", "wish" -> people |= 1 << value[1];
                case "child" -> {
                    people |= 1 << value[1] | 1 << value[2];
                    if (value[1] < 8) {
                        parents[value[1]] = value[2];
                    }
                }
                case "pass" -> {
                    people |= 1 << value[1];
                    doors |= 1 << value[2];
                }
                default -> { }
            }
        }
        if (sort == 0) {
            late(people >> counts[0] != 0, 4, text);
            late(doors >> counts[1] != 0, 5, text);
            late(dueFault == 0 && goesRound(parents), 6, text);
        }
    }

    private static void note(int fault, int at) {
        if (dueFault == 0) {
            dueFault = fault;
            duePlace = at;
        }
    }

    private static void late(boolean wrong, int fault, String text) {
        if (wrong) {
            note(fault, text.length());
        }
    }

    private static boolean goesRound(int[] parents) {
        for (int p = 0; p < 8; p++) {
            int slow = p;
            for (int step = 0; step < 9 && slow != NONE; step++) {
                slow = parents[slow];
            }
            if (slow != NONE) {
                return true;
            }
        }
        return false;
    }

    private static void count(String word, int[] counts, int at) {
        int which = switch (word) {
            case "person" -> 0;
            case "door" -> 1;
            case "work" -> 2;
            case "fine", "bail", "give", "stretch", "gift" -> 3;
            case "tall" -> 4;
            default -> NONE;
        };
        int[] most = {8, 6, 6, 40, 10};
        if (which != NONE && ++counts[which] > most[which]) {
            note(3, at);
        }
    }

    private static void ranges(String[] line, int[] value, int[] place) {
        switch (line[0]) {
            case "person", "door", "work" -> range(1, 99, value[1], place[1]);
            case "poor", "fine", "bail" -> range(0, 7, value[1], place[1]);
            case "caught" -> range(0, 10, value[1], place[1]);
            case "costs" -> range(1, 9, value[2], place[2]);
            case "owed" -> range(0, 99, value[1], place[1]);
            default -> {
                range(0, 7, value[1], place[1]);
                switch (line[0]) {
                    case "child", "gift" -> range(0, value[1] == value[2] ? NONE : 7, value[2], place[2]);
                    case "pass" -> range(0, 5, value[2], place[2]);
                    case "give", "stretch", "tall" -> range(1, 99, value[2], place[2]);
                    default -> { }
                }
                if (line[0].equals("gift")) {
                    range(1, 99, value[3], place[3]);
                }
            }
        }
    }

    private static void range(int least, int greatest, int value, int at) {
        if (value < least || value > greatest) {
            note(2, at);
        }
    }
}
