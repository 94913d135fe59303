import java.util.ArrayList;
import java.util.Arrays;
import java.util.List;
import java.util.regex.Matcher;
import java.util.regex.Pattern;

/** A text, read as plainly as may be: its FAULT, its place, and what its lines tell. */
final class ModelText {
    /** A line: its first word, where this stands, and the values behind it with their places. */
    static final class Line {
        final String word;
        final int place;
        final List<Integer> values = new ArrayList<>();
        final List<Integer> places = new ArrayList<>();

        Line(String word, int place) {
            this.word = word;
            this.place = place;
        }

        int value(int k) {
            return k < values.size() ? values.get(k) : Model.NONE;
        }
    }

    private static final Pattern PIECE = Pattern.compile("(?s)[a-z]+|[0-9]+|[ \n]+|.");
    private static final String[] FORMS = {
        "person N ; |poor N ; |caught N ; |door N ; |work N ; |child N N ; |pass N N ; |costs O N ; |wish N O N ; ",
        "fine N O ; |bail N O ; |give N N ; |stretch N N ; |gift N N N ; ",
        "got N N ; |owed N ; ",
        "tall N N ; "
    };

    final List<Line> lines = new ArrayList<>();
    int fault;
    int place = Model.NONE;

    ModelText(int sort, String text) {
        int broken = split(sort, text);
        if (broken != Model.NONE) {
            fault = 1;
            place = broken;
            return;
        }
        numbersAndCounts();
        if (fault == 0 && sort == 0) {
            atTheEnd(text.length());
        }
    }

    /** Splits a text into lines; the place with which no text goes on, or NONE. */
    private int split(int sort, String text) {
        Matcher m = PIECE.matcher(text);
        String shape = "";
        while (m.find()) {
            String piece = m.group();
            if (piece.matches("[ \n]+")) {
                continue;
            }
            int offence = List.of(Lines.OFFENCES).indexOf(piece);
            boolean number = piece.matches("[0-9]{1,2}");
            shape += (number ? "N" : offence >= 0 ? "O" : piece) + " ";
            if (piece.matches("[NO|]") || !goesOn(sort, shape)) {
                return m.start();
            }
            if (number || offence >= 0) {
                Line line = lines.get(lines.size() - 1);
                line.values.add(number ? Integer.parseInt(piece) : offence);
                line.places.add(m.start());
            } else if (piece.equals(";")) {
                shape = "";
            } else {
                lines.add(new Line(piece, m.start()));
            }
        }
        return shape.isEmpty() ? Model.NONE : text.length();
    }

    private static boolean goesOn(int sort, String shape) {
        for (String form : FORMS[sort].split("\\|")) {
            if (form.startsWith(shape)) {
                return true;
            }
        }
        return false;
    }

    private int many(String words, int before) {
        int many = 0;
        for (Line line : lines.subList(0, before)) {
            many += List.of(words.split(" ")).contains(line.word) ? 1 : 0;
        }
        return many;
    }

    private void found(int which, int where) {
        if (fault == 0 || where < place || where == place && which < fault) {
            fault = which;
            place = where;
        }
    }

    private void numbersAndCounts() {
        for (int k = 0; k < lines.size(); k++) {
            Line line = lines.get(k);
            for (int v = 0; v < line.values.size(); v++) {
                if (!canBe(line, v, line.value(v))) {
                    found(2, line.places.get(v));
                }
            }
            boolean tooMany = switch (line.word) {
                case "person" -> many("person", k) >= 8;
                case "door" -> many("door", k) >= 6;
                case "work" -> many("work", k) >= 6;
                case "fine", "bail", "give", "stretch", "gift" -> k >= 40;
                case "tall" -> k >= 10;
                default -> false;
            };
            if (tooMany) {
                found(3, line.place);
            }
        }
    }

    private static boolean within(int value, int least, int greatest) {
        return value >= least && value <= greatest;
    }

    private static boolean canBe(Line line, int v, int value) {
        boolean inches = within(value, 1, 99);
        boolean person = within(value, 0, 7);
        return switch (line.word) {
            case "person", "door", "work" -> inches;
            case "poor" -> person;
            case "caught" -> within(value, 0, 10);
            case "child" -> person && (v == 0 || value != line.value(0));
            case "pass" -> v == 0 ? person : within(value, 0, 5);
            case "costs" -> v == 0 || within(value, 1, 9);
            case "wish", "fine", "bail" -> v > 0 || person;
            case "give", "stretch", "tall" -> v == 0 ? person : inches;
            case "gift" -> v == 0 ? person : v == 1 ? person && value != line.value(0) : inches;
            case "got" -> v > 0 || person;
            case "owed" -> true;
            default -> throw new IllegalStateException(line.word);
        };
    }

    private void atTheEnd(int end) {
        int people = many("person", lines.size());
        int doors = many("door", lines.size());
        int[] parent = new int[8];
        Arrays.fill(parent, Model.NONE);
        for (Line line : lines) {
            boolean child = line.word.equals("child");
            if (child) {
                parent[line.value(0)] = line.value(1);
            }
            if (List.of("poor", "child", "pass", "wish").contains(line.word)
                    && (line.value(0) >= people || child && line.value(1) >= people)) {
                found(4, end);
            }
            if (line.word.equals("pass") && line.value(1) >= doors) {
                found(5, end);
            }
        }
        for (int p = 0; p < 8 && fault == 0; p++) {
            int at = parent[p];
            for (int step = 0; step < 20 && at != Model.NONE; step++) {
                at = parent[at];
            }
            if (at != Model.NONE) {
                found(6, end);
            }
        }
    }
}
