/**
 * The document's boundary cases, sentence by sentence: the texts of term 1, which bytes and tokens
 * they have, which NUMBERS can be, how many lines there may be, the FAULTS 1 to 6 and their places.
 */
public final class FaultEdgesTest {
    private static final int BOROUGH = 0;
    private static final int YEAR = 1;
    private static final int LEDGER = 2;
    private static final int SIGHT = 3;
    private static final String NUMBER = Lines.NUMBER;
    private static final String OFFENCE = Lines.OFFENCE;
    private static final String[] OFFENCES = Lines.OFFENCES;
    private static final String[][][] LINES = Lines.BY_SORT;
    private static final String EIGHT = Check.times(8, "person 9;");
    private static final String SIX = Check.times(6, "door 9;");
    private static final Check check = new Check();

    public static void main(String[] args) {
        emptyTexts();
        blanks();
        lettersAndDigits();
        oneOrTwoDigits();
        longRowsOfDigits();
        wordsAreWhole();
        textsThatBreakOff();
        tokensThatCanNotCome();
        linesOfAnotherSort();
        numbersOfABorough();
        numbersOfAYear();
        numbersOfALedger();
        numbersOfASight();
        theSecondPersonIsTheFirst();
        tooManyPeople();
        tooManyDoors();
        tooManyWorks();
        tooManyDeeds();
        tooManyFacts();
        aWrongNumberTellsAllTheSame();
        theFirstFaultComesFirst();
        theFirstByPlace();
        ofOnePlaceTheLeast();
        onlyIfThereIsNoneOfThese();
        aPersonWhoIsNotThere();
        aDoorThatIsNotThere();
        parentsGoRound();
        aStruckParentIsNone();
        ofABoroughAlone();
        check.finish();
    }

    private static void emptyTexts() {
        check.sentence("Terms", "A BOROUGH's text: {(('person' | 'poor' | 'caught' | 'door' | 'work') NUMBER | ('child' | 'pass')"
                + " NUMBER NUMBER | 'costs' OFFENCE NUMBER | 'wish' NUMBER OFFENCE NUMBER) ';'}");
        ofNoLinesAndOfSome(BOROUGH);
        check.sentence("Terms", "A YEAR's text: {(('fine' | 'bail') NUMBER OFFENCE | ('give' | 'stretch') NUMBER NUMBER | 'gift'"
                + " NUMBER NUMBER NUMBER) ';'}");
        ofNoLinesAndOfSome(YEAR);
        check.sentence("Terms", "A LEDGER's text: {('got' NUMBER NUMBER | 'owed' NUMBER) ';'}");
        ofNoLinesAndOfSome(LEDGER);
        check.sentence("Terms", "A SIGHT's text: {'tall' NUMBER NUMBER ';'}.");
        ofNoLinesAndOfSome(SIGHT);
    }

    private static void ofNoLinesAndOfSome(int sort) {
        check.good(sort, "");
        check.good(sort, " ");
        check.good(sort, "\n");
        check.good(sort, " \n".repeat(300));
        StringBuilder all = new StringBuilder("person 9;person 9;door 9;door 9;".repeat(sort == BOROUGH ? 1 : 0));
        for (String[] line : LINES[sort]) {
            all.append(narrow(line));
            check.good(sort, all.toString());
            check.good(sort, all + " ");
            check.faulty(sort, all.substring(0, all.length() - 1), 1, all.length() - 1);
        }
    }

    /** Each byte that there is, before, within and behind a line. */
    private static void blanks() {
        check.sentence("Terms", "TOKENS, as long as they go, blanks (10, 32) between");
        for (int sign = 0; sign < 256; sign++) {
            String one = String.valueOf((char) sign);
            boolean blank = sign == 10 || sign == 32;
            boolean digit = sign >= '0' && sign <= '9';
            boolean letter = sign >= 'a' && sign <= 'z';
            isGoodOrFaulty(blank, one + "owed 5;", 0);
            isGoodOrFaulty(blank || digit, "owed" + one + "5;", letter ? 0 : 4);
            isGoodOrFaulty(blank || digit, "owed " + one + "5;", 5);
            isGoodOrFaulty(blank || digit, "owed 5" + one + ";", sign == ';' ? 7 : 6);
            isGoodOrFaulty(blank, "owed 5;" + one, 7);
            isGoodOrFaulty(blank, "owed 5;" + one + "owed 6;", 7);
            isGoodOrFaulty(false, "ow" + one + "ed 5;", 0);
        }
        for (int sort = 0; sort < 4; sort++) {
            for (String[] line : LINES[sort]) {
                check.good(sort, setUp(line) + wide(line, "\n \n"));
            }
        }
    }

    private static void isGoodOrFaulty(boolean good, String text, int place) {
        if (good) {
            check.good(LEDGER, text);
        } else {
            check.faulty(LEDGER, text, 1, place);
        }
    }

    private static void lettersAndDigits() {
        check.sentence("Terms", "words, rows of letters a .. z; NUMBERS, 1 or 2 digits; ; one byte.");
        check.good(LEDGER, "owed5;got1 2;owed\n6;");
        check.good(BOROUGH, "person5;wish0lie5;");
        check.faulty(LEDGER, "OWED 5;", 1, 0);
        check.faulty(LEDGER, "owed 5;;", 1, 7);
        check.faulty(LEDGER, "owed 5; ;", 1, 8);
        for (String next : new String[] {"`", "{", "@", "[", "/", ":", "<", "\t", "\r", "\u00a0", "\u00b5", "\u0080", "\u00ff"}) {
            check.faulty(LEDGER, "owed " + next + ";", 1, 5);
            check.faulty(LEDGER, next + ";", 1, 0);
            check.faulty(LEDGER, "owed 5" + next, 1, 6);
        }
    }

    private static void oneOrTwoDigits() {
        check.sentence("Terms", "NUMBERS, 1 or 2 digits");
        check.faulty(LEDGER, "owed ;", 1, 5);
        for (int n = 0; n <= 99; n++) {
            owedIs(Integer.toString(n), n);
        }
        for (int n = 0; n <= 9; n++) {
            owedIs("0" + n, n);
        }
    }

    private static void owedIs(String digits, int due) {
        HeightFine x = new HeightFine();
        check.due("owed " + digits, Check.tell(x, LEDGER, HeightFine.NONE, "owed " + digits + ";"), 0);
        check.due("OWED by " + digits, x.ledger(0, 0), due);
    }

    private static void longRowsOfDigits() {
        check.sentence("Terms", "(a longer row of digits is no token)");
        for (String row : new String[] {"000", "001", "100", "099", "999", "0000", "4294967296", "9".repeat(590)}) {
            check.faulty(LEDGER, "owed " + row + ";", 1, 5);
            check.faulty(LEDGER, "owed " + row, 1, 5);
        }
        check.faulty(LEDGER, "owed 5;got 001 5;", 1, 11);
        check.faulty(LEDGER, "100", 1, 0);
        check.faulty(LEDGER, "owed 5 100;", 1, 7);
        check.good(LEDGER, "got 0 99;");
        check.good(LEDGER, "got 00 0;");
    }

    private static void wordsAreWhole() {
        check.sentence("Terms", "TOKENS, as long as they go");
        for (int sort = 0; sort < 4; sort++) {
            for (String[] line : LINES[sort]) {
                String rest = narrow(line).substring(line[0].length());
                String word = line[0];
                check.faulty(sort, word.substring(0, word.length() - 1) + rest, 1, 0);
                check.faulty(sort, word.substring(1) + rest, 1, 0);
                check.faulty(sort, word + "s" + rest, 1, 0);
                check.faulty(sort, word + word + rest, 1, 0);
                check.faulty(sort, word.substring(0, 1).toUpperCase() + word.substring(1) + rest, 1, 0);
                check.faulty(sort, word.substring(0, 2) + " " + word.substring(2) + rest, 1, 0);
            }
        }
        check.sentence("Terms", "OFFENCE: 'theft' | 'lie' | 'speed' | 'insult'.");
        for (String offence : OFFENCES) {
            check.good(YEAR, "fine 0 " + offence + ";");
            check.good(BOROUGH, "costs " + offence + " 1;");
            check.good(BOROUGH, "person 1;wish 0 " + offence + " 1;");
            for (String wrong : new String[] {offence + "s", offence.substring(1), offence.toUpperCase()}) {
                check.faulty(YEAR, "fine 0 " + wrong + ";", 1, 7);
                check.faulty(BOROUGH, "costs " + wrong + " 1;", 1, 6);
                check.faulty(BOROUGH, "wish 0 " + wrong + " 1;", 1, 7);
            }
        }
    }

    /** A line's own tokens, the first NUMBER being 0, the next ones 1. */
    private static String[] tokensOf(String[] line) {
        String[] tokens = new String[line.length + 1];
        int numbers = 0;
        boolean inches = line.length == 2 && !line[0].equals("poor");
        for (int k = 0; k < line.length; k++) {
            tokens[k] = line[k];
            if (line[k].equals(OFFENCE)) {
                tokens[k] = "lie";
            } else if (line[k].equals(NUMBER)) {
                tokens[k] = numbers > 0 || inches || line[0].equals("costs") ? "1" : "0";
                numbers++;
            }
        }
        tokens[line.length] = ";";
        return tokens;
    }

    private static String narrow(String[] line) {
        return String.join(" ", tokensOf(line)).replace(" ;", ";");
    }

    private static String wide(String[] line, String blanks) {
        return blanks + String.join(blanks, tokensOf(line)) + blanks;
    }

    /** What a BOROUGH needs for its line to be good. */
    private static String setUp(String[] line) {
        switch (line[0]) {
            case "poor":
            case "child":
            case "wish":
                return "person 9;person 9;";
            case "pass":
                return "person 9;door 9;door 9;";
            default:
                return "";
        }
    }

    private static void textsThatBreakOff() {
        check.sentence("Terms", "FAULTS of all, with places (a token's first byte; the end's)");
        for (int sort = 0; sort < 4; sort++) {
            for (String[] line : LINES[sort]) {
                String[] tokens = tokensOf(line);
                StringBuilder text = new StringBuilder(setUp(line));
                check.good(sort, text.toString());
                for (int k = 0; k + 1 < tokens.length; k++) {
                    text.append(tokens[k]);
                    check.faulty(sort, text.toString(), 1, text.length());
                    text.append(' ');
                    check.faulty(sort, text.toString(), 1, text.length());
                    check.faulty(sort, text + "\n\n", 1, text.length() + 2);
                }
                check.good(sort, text + ";");
            }
        }
    }

    private static void tokensThatCanNotCome() {
        check.sentence("Terms", "1 the first byte or token with which no text goes on");
        String[] others = {"zzz", "a", "lie", "theft", "owed", "tall", "gift", "poor", "1", "01", "123", ";", "#", ",", "-1"};
        for (int sort = 0; sort < 4; sort++) {
            for (String[] line : LINES[sort]) {
                String[] tokens = tokensOf(line);
                StringBuilder before = new StringBuilder();
                for (int k = 0; k < tokens.length; k++) {
                    for (String other : others) {
                        if (!mayStand(sort, line, k, other)) {
                            check.faulty(sort, before + other, 1, before.length());
                            check.faulty(sort, before + other + " 1;", 1, before.length());
                            check.faulty(sort, before + "\n " + other + ";", 1, before.length() + 2);
                        }
                    }
                    before.append(tokens[k]).append(' ');
                }
            }
        }
    }

    private static boolean mayStand(int sort, String[] line, int k, String token) {
        if (k == line.length) {
            return token.equals(";");
        }
        if (line[k].equals(NUMBER)) {
            return token.matches("[0-9]{1,2}");
        }
        if (line[k].equals(OFFENCE)) {
            return token.equals("lie") || token.equals("theft");
        }
        for (String[] one : LINES[sort]) {
            if (one[0].equals(token)) {
                return true;
            }
        }
        return false;
    }

    private static void linesOfAnotherSort() {
        check.sentence("Terms", "A SIGHT's text: {'tall' NUMBER NUMBER ';'}.");
        for (int sort = 0; sort < 4; sort++) {
            for (int other = 0; other < 4; other++) {
                for (String[] line : LINES[other]) {
                    if (sort == other) {
                        check.good(sort, setUp(line) + narrow(line));
                    } else {
                        check.faulty(sort, narrow(line), 1, 0);
                    }
                }
            }
        }
    }

    /** Each NUMBER that there is, told in its place: what the object then tells of it, or FAULT 2 there. */
    private static void numbers(int sort, String before, String behind, int least, int greatest, int what) {
        for (int n = 0; n <= 99; n++) {
            numberIs(sort, before, n + behind, n >= least && n <= greatest, what, n);
        }
    }

    private static void numberIs(int sort, String before, String rest, boolean can, int what, int due) {
        if (can) {
            check.good(sort, before + rest);
            check.due("told by '" + before + rest + "'", ask(sort, before + rest, what), due);
        } else {
            check.faulty(sort, before + rest, 2, before.length());
        }
    }

    private static int ask(int sort, String text, int what) {
        HeightFine x = new HeightFine();
        Check.tell(x, sort, HeightFine.NONE, text);
        switch (sort) {
            case BOROUGH:
                return x.borough(0, what);
            case YEAR:
                return x.deed(0, 0, what);
            case LEDGER:
                return x.ledger(0, what);
            default:
                return x.fact(0, 0, what);
        }
    }

    private static void numbersOfABorough() {
        check.sentence("Terms", "2 a NUMBER that can't be (as above");
        check.faulty(BOROUGH, "person 0;", 2, 7);
        check.good(BOROUGH, "person 1;");
        check.sentence("Terms", "(person: INCHES");
        numbers(BOROUGH, "person ", ";", 1, 99, 10);
        check.sentence("Terms", "INCHES, 1 .. 99");
        numbers(BOROUGH, "person ", ";", 1, 99, 10);
        check.sentence("Terms", "poor: a PERSON, 0 .. 7");
        for (int n = 0; n <= 99; n++) {
            numberIs(BOROUGH, EIGHT + "poor ", n + ";", n <= 7, 1, 1 << n);
        }
        check.sentence("Terms", "CAUGHT, 0 .. 10 of ten (5).");
        numbers(BOROUGH, "caught ", ";", 0, 10, 2);
        check.sentence("Terms", "DOORS, at most 6, from 0 on: a TOP, 1 .. 99");
        numbers(BOROUGH, "door ", ";", 1, 99, 40);
        check.sentence("Terms", "door: TOP; work: REACH");
        numbers(BOROUGH, Check.times(5, "door 9;") + "door ", ";", 1, 99, 45);
        numbers(BOROUGH, Check.times(5, "work 9;") + "work ", ";", 1, 99, 65);
        check.sentence("Terms", "WORKS, at most 6, from 0 on: a REACH, 1 .. 99.");
        numbers(BOROUGH, "work ", ";", 1, 99, 60);
        check.sentence("Terms", "FINES, 1 .. 9 each");
        for (int o = 0; o < 4; o++) {
            numbers(BOROUGH, "costs " + OFFENCES[o] + " ", ";", 1, 9, 30 + o);
        }
        check.sentence("Terms", "costs: FINE");
        check.faulty(BOROUGH, "costs lie 0;", 2, 10);
        check.faulty(BOROUGH, "costs lie 10;", 2, 10);
        check.sentence("Terms", "WISH of each PERSON for each, 0 .. 99 (0)");
        for (int o = 0; o < 4; o++) {
            numbers(BOROUGH, EIGHT + "wish 0 " + OFFENCES[o] + " ", ";", 0, 99, 70 + o);
            numbers(BOROUGH, EIGHT + "wish 7 " + OFFENCES[o] + " ", ";", 0, 99, 98 + o);
        }
        check.sentence("Terms", "pass: a PERSON, a DOOR, 0 .. 5");
        for (int n = 0; n <= 99; n++) {
            numberIs(BOROUGH, EIGHT + SIX + "pass ", n + " 5;", n <= 7, 55, 1 << n);
            numberIs(BOROUGH, EIGHT + SIX + "pass 7 ", n + ";", n <= 5, 50 + n, 128);
        }
        check.sentence("Terms", "wish: a PERSON, how much");
        for (int n = 0; n <= 99; n++) {
            numberIs(BOROUGH, EIGHT + "wish ", n + " lie 9;", n <= 7, 71 + 4 * n, 9);
        }
        check.sentence("Terms", "child: a PERSON, its PARENT, 0 .. 7 each");
        numbers(BOROUGH, EIGHT + "child 0 ", ";", 1, 7, 20);
        numbers(BOROUGH, EIGHT + "child 7 ", ";", 0, 6, 27);
        for (int n = 1; n <= 99; n++) {
            numberIs(BOROUGH, EIGHT + "child ", n + " 0;", n <= 7, 20 + n, 0);
        }
    }

    private static void numbersOfAYear() {
        check.sentence("Terms", "(a PERSON, 0 .. 7; give, stretch: inches, 1 .. 99; gift: from, to, inches)");
        for (String offence : OFFENCES) {
            numbers(YEAR, "fine ", " " + offence + ";", 0, 7, 1);
            numbers(YEAR, "bail ", " " + offence + ";", 0, 7, 1);
        }
        numbers(YEAR, "give ", " 5;", 0, 7, 1);
        numbers(YEAR, "give 5 ", ";", 1, 99, 2);
        numbers(YEAR, "stretch ", " 5;", 0, 7, 1);
        numbers(YEAR, "stretch 5 ", ";", 1, 99, 2);
        numbers(YEAR, "gift 7 ", " 5;", 0, 6, 2);
        numbers(YEAR, "gift 0 ", " 5;", 1, 7, 2);
        numbers(YEAR, "gift 0 1 ", ";", 1, 99, 3);
        for (int n = 1; n <= 99; n++) {
            numberIs(YEAR, "gift ", n + " 0 5;", n <= 7, 1, n);
        }
    }

    private static void numbersOfALedger() {
        check.sentence("Terms", "A LEDGER has GOT of each of 8, 0 .. 99 each (0 at first), OWED, 0 .. 99 (0).");
        numbers(LEDGER, "owed ", ";", 0, 99, 0);
        for (int k = 0; k < 8; k++) {
            numbers(LEDGER, "got " + k + " ", ";", 0, 99, 10 + k);
        }
        check.sentence("Terms", "got: one of 8, 0 .. 7, inches");
        for (int n = 0; n <= 99; n++) {
            numberIs(LEDGER, "got ", n + " 5;", n <= 7, 10 + n, 5);
        }
    }

    private static void numbersOfASight() {
        check.sentence("Terms", "a PERSON, 0 .. 7, was so many inches in the end, 1 .. 99.");
        numbers(SIGHT, "tall ", " 5;", 0, 7, 0);
        numbers(SIGHT, "tall 5 ", ";", 1, 99, 1);
    }

    private static void theSecondPersonIsTheFirst() {
        check.sentence("Terms", "of child, gift the second PERSON, if it is the first");
        for (int a = 0; a < 8; a++) {
            for (int b = 0; b < 8; b++) {
                String child = EIGHT + "child " + a + " " + b + ";";
                String gift = "gift " + a + " " + b + " 9;";
                if (a == b) {
                    check.faulty(BOROUGH, child, 2, EIGHT.length() + 8);
                    check.faulty(YEAR, gift, 2, 7);
                } else {
                    check.good(BOROUGH, child);
                    check.good(YEAR, gift);
                }
            }
        }
        check.faulty(BOROUGH, EIGHT + "child 3 03;", 2, EIGHT.length() + 8);
        check.faulty(BOROUGH, "child 8 8;", 2, 6);
        check.faulty(BOROUGH, "child 99 99;", 2, 6);
        check.faulty(YEAR, "gift 8 8 0;", 2, 5);
        check.faulty(YEAR, "gift 1 1 0;", 2, 7);
        check.good(BOROUGH, EIGHT + SIX + "pass 5 5;poor 0;");
        check.good(YEAR, "give 5 5;stretch 5 5;");
        check.good(YEAR, "gift 0 5 5;gift 5 0 5;");
        check.good(LEDGER, "got 5 5;");
        check.good(SIGHT, "tall 5 5;");
    }

    private static void tooManyPeople() {
        check.sentence("Terms", "A BOROUGH has PEOPLE, at most 8, from 0 on");
        for (int many = 0; many <= 8; many++) {
            HeightFine x = Check.withBorough(Check.times(many, "person 9;"));
            check.due("PEOPLE", x.borough(0, 0), many);
            check.due("the last one", x.borough(0, 9 + many), many == 0 ? -2 : 9);
            check.due("one more", x.borough(0, 10 + many), -2);
        }
        check.sentence("Terms", "3 a 9th PERSON, a 7th DOOR, a 7th WORK, a 41st DEED, an 11th FACT, at its first token.");
        check.faulty(BOROUGH, EIGHT + "person 9;", 3, 72);
        check.faulty(BOROUGH, EIGHT + "  \nperson 9;", 3, 75);
        check.faulty(BOROUGH, EIGHT + "person 9;person 9;", 3, 72);
        check.faulty(BOROUGH, EIGHT + SIX + "poor 0;caught 1;person 9;", 3, 72 + 42 + 16);
        check.good(BOROUGH, EIGHT + "poor 0;poor 0;poor 0;poor 0;poor 0;poor 0;poor 0;poor 0;poor 0;");
    }

    private static void tooManyDoors() {
        check.sentence("Terms", "DOORS, at most 6, from 0 on");
        for (int many = 0; many <= 6; many++) {
            HeightFine x = Check.withBorough(Check.times(many, "door 9;"));
            check.due("DOORS", x.borough(0, 3), many);
            check.due("the last one", x.borough(0, 39 + many), many == 0 ? -2 : 9);
            check.due("one more", x.borough(0, 40 + many), -2);
        }
        check.sentence("Terms", "a 7th DOOR");
        check.faulty(BOROUGH, SIX + "door 9;", 3, 42);
        check.faulty(BOROUGH, SIX + EIGHT + Check.times(6, "work 9;") + "door 9;", 3, 42 + 72 + 42);
    }

    private static void tooManyWorks() {
        check.sentence("Terms", "WORKS, at most 6, from 0 on");
        for (int many = 0; many <= 6; many++) {
            HeightFine x = Check.withBorough(Check.times(many, "work 9;"));
            check.due("WORKS", x.borough(0, 4), many);
            check.due("the last one", x.borough(0, 59 + many), many == 0 ? -2 : 9);
            check.due("one more", x.borough(0, 60 + many), -2);
        }
        check.sentence("Terms", "a 7th WORK");
        check.faulty(BOROUGH, Check.times(7, "work 9;"), 3, 42);
        check.faulty(BOROUGH, Check.times(6, "work 9;") + EIGHT + SIX + "work 9;", 3, 42 + 72 + 42);
        check.good(BOROUGH, Check.times(6, "work 9;") + EIGHT + SIX);
    }

    private static void tooManyDeeds() {
        check.sentence("Terms", "A YEAR has DEEDS, at most 40, from 0 on.");
        String[] kinds = {"fine 0 lie;", "bail 0 lie;", "give 0 9;", "stretch 0 9;", "gift 0 1 9;"};
        String forty = Check.times(8, String.join("", kinds));
        HeightFine x = new HeightFine();
        check.due("forty", Check.tell(x, YEAR, HeightFine.NONE, forty), 0);
        check.due("DEEDS", x.deed(0, HeightFine.NONE, 0), 40);
        check.due("the last one", x.deed(0, 39, 0), 4);
        check.due("one more", x.deed(0, 40, 0), -2);
        check.sentence("Terms", "a 41st DEED");
        for (String kind : kinds) {
            check.good(YEAR, Check.times(40, kind));
            check.faulty(YEAR, Check.times(41, kind), 3, 40 * kind.length());
            check.faulty(YEAR, forty + kind, 3, forty.length());
            check.faulty(YEAR, forty + " " + kind + kind, 3, forty.length() + 1);
        }
    }

    private static void tooManyFacts() {
        check.sentence("Terms", "A SIGHT has FACTS, at most 10, from 0 on");
        for (int many = 0; many <= 10; many++) {
            HeightFine x = new HeightFine();
            Check.tell(x, SIGHT, HeightFine.NONE, Check.times(many, "tall 1 9;"));
            check.due("FACTS", x.fact(0, HeightFine.NONE, 0), many);
            check.due("the last one", x.fact(0, many - 1, 1), many == 0 ? -2 : 9);
            check.due("one more", x.fact(0, many, 1), -2);
        }
        check.sentence("Terms", "an 11th FACT");
        check.faulty(SIGHT, Check.times(11, "tall 1 9;"), 3, 90);
        check.faulty(SIGHT, Check.times(10, "tall 1 9;") + " \ntall 1 9;", 3, 92);
    }

    /** The line that is one too many has its FAULT 3 before that of its own NUMBER. */
    private static void aWrongNumberTellsAllTheSame() {
        check.sentence("Terms", "a line with such a NUMBER tells its PERSON, DOOR, WORK, DEED, FACT all the same");
        check.faulty(BOROUGH, EIGHT + "person 0;", 3, 72);
        check.faulty(BOROUGH, SIX + "door 0;", 3, 42);
        check.faulty(BOROUGH, Check.times(6, "work 9;") + "work 0;", 3, 42);
        check.faulty(YEAR, Check.times(40, "give 0 1;") + "give 8 0;", 3, 360);
        check.faulty(YEAR, Check.times(40, "give 0 1;") + "gift 1 1 1;", 3, 360);
        check.faulty(SIGHT, Check.times(10, "tall 0 1;") + "tall 8 0;", 3, 90);
        check.faulty(BOROUGH, "person 0;" + EIGHT, 2, 7);
        check.faulty(BOROUGH, "door 0;" + SIX, 2, 5);
        check.faulty(YEAR, "give 8 1;" + Check.times(40, "give 0 1;"), 2, 5);
        check.faulty(SIGHT, "tall 0 0;" + Check.times(10, "tall 0 1;"), 2, 7);
    }

    private static void theFirstFaultComesFirst() {
        check.sentence("Terms", "If there is none, the first by place");
        check.faulty(BOROUGH, "person 0;poor 9;#", 1, 16);
        check.faulty(BOROUGH, EIGHT + "person 9;person", 1, 87);
        check.faulty(BOROUGH, SIX + "door 9;door 9", 1, 55);
        check.faulty(BOROUGH, "poor 0;pass 0 0;child 0 1;child 1 0;;", 1, 36);
        check.faulty(YEAR, Check.times(41, "give 0 1;") + "x", 1, 369);
        check.faulty(YEAR, "gift 0 0 0", 1, 10);
        check.faulty(YEAR, "gift 9 9 100;", 1, 9);
        check.faulty(LEDGER, "got 8 1;owed 100;", 1, 13);
        check.faulty(SIGHT, Check.times(11, "tall 9 0;") + "tall 9 0", 1, 107);
    }

    private static void theFirstByPlace() {
        check.sentence("Terms", "If there is none, the first by place");
        check.faulty(BOROUGH, "caught 11;" + EIGHT + "person 9;", 2, 7);
        check.faulty(BOROUGH, EIGHT + "person 9;caught 11;", 3, 72);
        check.faulty(BOROUGH, EIGHT + "caught 11;person 9;", 2, 79);
        check.faulty(BOROUGH, "caught 11;caught 12;", 2, 7);
        check.faulty(BOROUGH, "wish 8 lie 9;poor 8;", 2, 5);
        check.faulty(BOROUGH, "pass 8 6;", 2, 5);
        check.faulty(BOROUGH, EIGHT + "pass 7 6;pass 8 0;", 2, 79);
        check.faulty(BOROUGH, SIX + EIGHT + "door 9;person 9;", 3, 114);
        check.faulty(BOROUGH, SIX + EIGHT + "person 9;door 9;", 3, 114);
        check.faulty(YEAR, "give 8 0;", 2, 5);
        check.faulty(YEAR, "give 7 0;give 8 1;", 2, 7);
        check.faulty(YEAR, "gift 7 8 0;", 2, 7);
        check.faulty(YEAR, "gift 7 6 0;gift 8 8 0;", 2, 9);
        check.faulty(LEDGER, "owed 99;got 9 99;got 8 1;", 2, 12);
        check.faulty(SIGHT, "tall 8 0;", 2, 5);
    }

    private static void ofOnePlaceTheLeast() {
        check.sentence("Terms", "of one place the least");
        String round = "child 0 1;child 1 0;";
        String two = "person 9;person 9;";
        check.faulty(BOROUGH, two + "pass 2 0;", 4, 27);
        check.faulty(BOROUGH, two + "pass 0 0;pass 2 0;", 4, 36);
        check.faulty(BOROUGH, two + round + "poor 2;", 4, 45);
        check.faulty(BOROUGH, two + round + "pass 0 0;", 5, 47);
        check.faulty(BOROUGH, two + "pass 0 0;" + round + "poor 2;", 4, 54);
        check.faulty(BOROUGH, two + round, 6, 38);
        check.faulty(BOROUGH, "child 0 1;child 1 0;", 4, 20);
    }

    private static void onlyIfThereIsNoneOfThese() {
        check.sentence("Terms", "If there is none of these, at the end's place, of a BOROUGH");
        String two = "person 9;person 9;";
        check.faulty(BOROUGH, "poor 0;caught 11;", 2, 14);
        check.faulty(BOROUGH, "poor 0;" + Check.times(7, "door 9;"), 3, 49);
        check.faulty(BOROUGH, two + "pass 0 0;work 0;", 2, 32);
        check.faulty(BOROUGH, two + "child 0 1;child 1 0;" + Check.times(7, "work 9;"), 3, 80);
        for (String end : new String[] {"", " ", "\n", " \n ", " ".repeat(500)}) {
            check.faulty(BOROUGH, "poor 0;" + end, 4, 7 + end.length());
            check.faulty(BOROUGH, two + "pass 0 0;" + end, 5, 27 + end.length());
            check.faulty(BOROUGH, two + "child 0 1;child 1 0;" + end, 6, 38 + end.length());
        }
    }

    private static void aPersonWhoIsNotThere() {
        check.sentence("Terms", "4 a PERSON that was told of and is not there");
        for (int people = 0; people < 8; people++) {
            String there = Check.times(people, "person 9;");
            String door = there + "door 9;";
            int last = people - 1;
            notThere(4, there + "poor " + people + ";");
            notThere(4, there + "wish " + people + " lie 1;");
            notThere(4, there + "wish " + people + " lie 0;");
            notThere(4, door + "pass " + people + " 0;");
            notThere(4, "poor " + people + ";" + there);
            if (people > 0) {
                check.good(BOROUGH, there + "poor " + last + ";wish " + last + " lie 1;");
                check.good(BOROUGH, door + "pass " + last + " 0;");
                check.good(BOROUGH, "poor " + last + ";wish " + last + " lie 1;pass " + last + " 0;" + door);
                notThere(4, there + "child " + people + " 0;");
                notThere(4, there + "child 0 " + people + ";");
            }
            if (people > 1) {
                check.good(BOROUGH, there + "child " + last + " 0;");
                check.good(BOROUGH, there + "child 0 " + last + ";");
                check.good(BOROUGH, "child " + last + " 0;" + there);
                notThere(4, there + "child 0 " + people + ";child 0 1;");
                notThere(4, there + "wish " + people + " lie 1;wish 0 lie 1;");
            }
        }
        check.good(BOROUGH, EIGHT + "poor 7;wish 7 lie 1;child 7 0;");
    }

    private static void notThere(int fault, String text) {
        check.faulty(BOROUGH, text, fault, text.length());
    }

    private static void aDoorThatIsNotThere() {
        check.sentence("Terms", "5 a DOOR likewise");
        for (int doors = 0; doors < 6; doors++) {
            String there = "person 9;" + Check.times(doors, "door 9;");
            notThere(5, there + "pass 0 " + doors + ";");
            notThere(5, there + "pass 0 5;");
            notThere(5, "pass 0 " + doors + ";" + there);
            if (doors > 0) {
                check.good(BOROUGH, there + "pass 0 " + (doors - 1) + ";");
                check.good(BOROUGH, "pass 0 " + (doors - 1) + ";" + there);
                notThere(5, there + "pass 0 " + doors + ";pass 0 0;");
            }
        }
        check.good(BOROUGH, "person 9;" + SIX + "pass 0 5;");
    }

    private static void parentsGoRound() {
        check.sentence("Terms", "6 PARENTS go round.");
        for (int many = 2; many <= 8; many++) {
            String people = Check.times(many, "person 9;");
            StringBuilder up = new StringBuilder(people);
            StringBuilder down = new StringBuilder(people);
            for (int p = 0; p + 1 < many; p++) {
                up.append("child ").append(p).append(' ').append(p + 1).append(';');
                down.append("child ").append(p + 1).append(' ').append(p).append(';');
            }
            check.good(BOROUGH, up.toString());
            check.good(BOROUGH, down.toString());
            for (int p = 0; p + 1 < many; p++) {
                notThere(6, up + "child " + (many - 1) + " " + p + ";");
                notThere(6, down + "child 0 " + (p + 1) + ";");
            }
        }
    }

    private static void aStruckParentIsNone() {
        check.sentence("Terms", "Later ones strike");
        String three = Check.times(3, "person 9;");
        check.good(BOROUGH, three + "child 0 1;child 1 0;child 1 2;");
        check.good(BOROUGH, three + "child 0 1;child 1 0;child 0 2;");
        notThere(6, three + "child 0 1;child 1 2;child 1 0;");
    }

    private static void ofABoroughAlone() {
        check.sentence("Terms", "at the end's place, of a BOROUGH: 4 a PERSON");
        check.good(YEAR, "fine 7 lie;bail 7 lie;give 7 1;stretch 7 1;gift 7 6 1;gift 6 7 1;");
        check.good(LEDGER, "got 7 1;");
        check.good(SIGHT, "tall 7 1;");
    }
}
