/** Promises 1 to 7, 17 and 28 to 30: the tape, the texts, their FAULTS, what is told, images. */
public final class TextsTest {
    private static final int NONE = HeightFine.NONE;
    private static final Check check = new Check();

    public static void main(String[] args) {
        aNewObject();
        theTape();
        takingTheTape();
        theTapeWhenNoTextCanCome();
        placesOfTexts();
        syntaxFaults();
        numberFaults();
        tooMany();
        whichFaultIsFirst();
        endFaults();
        boroughs();
        laterOnesStrike();
        deeds();
        facts();
        images();
        check.finish();
    }

    private static void aNewObject() {
        HeightFine x = new HeightFine();
        check.due("NONE", HeightFine.NONE, -1);
        for (int sort = 0; sort < 4; sort++) {
            check.due("new: count", x.count(sort), 0);
        }
        check.due("count(4)", x.count(4), -2);
        check.due("count(-1)", x.count(-1), -2);
        check.due("new: fault(0)", x.fault(0), 0);
        check.due("new: fault(1)", x.fault(1), NONE);
        check.due("fault(2)", x.fault(2), NONE);
        check.due("fault(-1)", x.fault(-1), NONE);
        for (int k = -1; k < 4; k++) {
            check.due("new: again", x.again(k), false);
        }
        check.due("new: borough", x.borough(0, 0), -2);
        check.due("new: deed", x.deed(0, NONE, 0), -2);
        check.due("new: fact", x.fact(0, NONE, 0), -2);
        check.due("new: ledger", x.ledger(0, 0), -2);
        check.due("new: end(0)", x.end(0), 0);
        check.due("new: end(1)", x.end(1), NONE);
    }

    private static void theTape() {
        HeightFine x = new HeightFine();
        for (int k = 1; k <= 30; k++) {
            check.due("feed", x.feed(1, 2, 3, 4, 5), 20 * k);
        }
        check.due("a 31st feed", x.feed(1, 2, 3, 4, 5), NONE);
        check.due("end(601)", x.end(601), NONE);
        check.due("end(-1)", x.end(-1), NONE);
        check.due("end(600)", x.end(600), 600);
        check.due("end(581)", x.end(581), 581);
        check.due("feed above 600", x.feed(0, 0, 0, 0, 0), NONE);
        check.due("end(582)", x.end(582), NONE);
        check.due("end(580)", x.end(580), 580);
        check.due("feed up to 600", x.feed(0, 0, 0, 0, 0), 600);
        check.due("end(0)", x.end(0), 0);
        check.due("text", x.text(0, NONE), 0);
    }

    /** The highest byte of each number comes first, and all twenty come in their order. */
    private static void takingTheTape() {
        HeightFine x = new HeightFine();
        check.due("feed", x.feed(0x6f776564, 0x20373b67, 0x6f742030, 0x20333b20, 0x2020200a), 20);
        check.due("text", x.text(2, NONE), 0);
        check.due("OWED", x.ledger(0, 0), 7);
        check.due("GOT", x.ledger(0, 10), 3);
        check.due("the tape is empty", x.end(1), NONE);

        check.due("a second one", Check.tell(x, 2, NONE, "owed 5;"), 1);
        check.due("OWED", x.ledger(1, 0), 5);

        check.due("a wrong text", Check.tell(x, 2, 0, "owed"), NONE);
        check.due("the tape is empty", x.end(1), NONE);
        check.due("what was there stays", x.ledger(0, 0), 7);
        check.due("FAULT", x.fault(0), 1);
        check.due("place", x.fault(1), 4);
        check.due("-2", x.text(2, NONE), -2);
        check.due("FAULT behind -2", x.fault(0), 0);
        check.due("place behind -2", x.fault(1), NONE);
    }

    /** Each way to the answer -2, the tape being empty behind it, and nothing being read of it. */
    private static void theTapeWhenNoTextCanCome() {
        int[] sort = {4, -1, Integer.MAX_VALUE, 2, 2, 2, 2, 3, 0, 1};
        int[] at = {NONE, 0, NONE, NONE, 2, -2, Integer.MIN_VALUE, 0, 0, 1};
        for (int k = 0; k < sort.length; k++) {
            String call = "text(" + sort[k] + ", " + at[k] + ") ";
            HeightFine x = new HeightFine();
            Check.tell(x, 2, NONE, "owed 1;");
            Check.tell(x, 2, NONE, "owed 2;");
            check.due("a wrong text", Check.tell(x, 2, 0, "owed"), NONE);
            check.due(call, Check.tell(x, sort[k], at[k], "owed 5;"), -2);
            check.due(call + "FAULT", x.fault(0), 0);
            check.due(call + "place", x.fault(1), NONE);
            check.due(call + "end(1)", x.end(1), NONE);
            check.due(call + "feed", x.feed(0, 0, 0, 0, 0), 20);
            check.due(call + "end(0)", x.end(0), 0);
            check.due(call + "count", x.count(2), 2);
            check.due(call + "OWED", x.ledger(0, 0), 1);
            check.due(call + "OWED", x.ledger(1, 0), 2);
            check.due(call + "a text of nothing", x.text(2, 0), 0);
            check.due(call + "OWED", x.ledger(0, 0), 0);
        }
    }

    private static void placesOfTexts() {
        for (int sort = 0; sort < 4; sort++) {
            HeightFine x = new HeightFine();
            check.due("in the place of none", x.text(sort, 0), -2);
            check.due("first", x.text(sort, NONE), 0);
            check.due("in the place of one that is not there", x.text(sort, 1), -2);
            check.due("second", x.text(sort, NONE), 1);
            check.due("third", x.text(sort, NONE), -2);
            check.due("count", x.count(sort), 2);
            check.due("in its place", x.text(sort, 1), 1);
            check.due("in its place", x.text(sort, 0), 0);
            check.due("at 2", x.text(sort, 2), -2);
            check.due("at -2", x.text(sort, -2), -2);
            check.due("count", x.count(sort), 2);
            check.due("count of another", x.count((sort + 1) % 4), 0);
            check.due("sort -1", x.text(-1, NONE), -2);
        }
        HeightFine x = Check.withBorough("person 5;costs theft 9;caught 7;poor 0;wish 0 lie 8;door 4;work 3;");
        check.due("a new one in its place", Check.tell(x, 0, 0, "person 6;"), 0);
        check.due("INCHES", x.borough(0, 10), 6);
        check.due("FINE", x.borough(0, 30), 6);
        check.due("CAUGHT", x.borough(0, 2), 5);
        check.due("POOR", x.borough(0, 1), 0);
        check.due("WISH", x.borough(0, 71), 0);
        check.due("DOORS", x.borough(0, 3), 0);
        check.due("WORKS", x.borough(0, 4), 0);
        check.due("a faulty one in its place", Check.tell(x, 0, 0, "person 0;"), NONE);
        check.due("INCHES stay", x.borough(0, 10), 6);
    }

    private static void syntaxFaults() {
        for (int sort = 0; sort < 4; sort++) {
            check.good(sort, "");
            check.good(sort, " \n  \n");
            check.faulty(sort, ";", 1, 0);
            check.faulty(sort, " 5;", 1, 1);
            check.faulty(sort, "x;", 1, 0);
        }
        check.good(0, "person20;\n person\n9 ;person 07;");
        check.faulty(0, "person", 1, 6);
        check.faulty(0, "person 5", 1, 8);
        check.faulty(0, "person 5  ", 1, 10);
        check.faulty(0, "person 5 5;", 1, 9);
        check.faulty(0, "person 100;", 1, 7);
        check.faulty(0, "person 5;person 005;", 1, 16);
        check.faulty(0, "person\t5;", 1, 6);
        check.faulty(0, "Person 5;", 1, 0);
        check.faulty(0, "persons 5;", 1, 0);
        check.faulty(0, "perso 5;", 1, 0);
        check.faulty(0, "person five;", 1, 7);
        check.faulty(0, "person -5;", 1, 7);
        check.faulty(0, "person 5\u00e9;", 1, 8);
        check.faulty(0, "person 5\0;", 1, 8);
        check.faulty(0, "costs murder 1;", 1, 6);
        check.faulty(0, "costs 1;", 1, 6);
        check.faulty(0, "costs theft;", 1, 11);
        check.faulty(0, "wish 0 1 theft;", 1, 7);
        check.faulty(0, "child 0;", 1, 7);
        check.faulty(0, "fine 0 lie;", 1, 0);
        check.faulty(0, "got 1 1;", 1, 0);
        check.faulty(1, "person 5;", 1, 0);
        check.faulty(1, "fine 0 1;", 1, 7);
        check.faulty(1, "fine 0;", 1, 6);
        check.faulty(1, "fine lie;", 1, 5);
        check.faulty(1, "gift 0 1;", 1, 8);
        check.faulty(1, "give 0 lie;", 1, 7);
        check.faulty(1, "stretch 0 1 1;", 1, 12);
        check.good(1, "fine 0 theft;bail 7 insult;give 0 99;stretch 1 1;gift 7 0 1;fine 3 speed;fine 3 lie;");
        check.faulty(2, "owed 100;", 1, 5);
        check.faulty(2, "got 0 100;", 1, 6);
        check.faulty(2, "got 0;", 1, 5);
        check.faulty(2, "owed 1 1;", 1, 7);
        check.faulty(3, "tall 0;", 1, 6);
        check.faulty(3, "got 0 1;", 1, 0);
        check.faulty(3, "tall 0 1;owed 1;", 1, 9);
    }

    private static void numberFaults() {
        check.faulty(0, "person 0;", 2, 7);
        check.faulty(0, "person 00;", 2, 7);
        check.good(0, "person 1;person 99;caught 0;caught 10;door 1;door 99;work 1;work 99;"
                + "costs speed 1;costs speed 9;wish 0 lie 0;wish 1 lie 99;pass 0 1;");
        check.faulty(0, "poor 8;", 2, 5);
        check.faulty(0, "caught 11;", 2, 7);
        check.faulty(0, "door 0;", 2, 5);
        check.faulty(0, "work 0;", 2, 5);
        check.faulty(0, "child 0 0;", 2, 8);
        check.faulty(0, "child 8 8;", 2, 6);
        check.faulty(0, "child 0 8;", 2, 8);
        check.faulty(0, "pass 8 0;", 2, 5);
        check.faulty(0, "person 1;pass 0 6;", 2, 16);
        check.faulty(0, "costs theft 10;", 2, 12);
        check.faulty(0, "costs theft 0;", 2, 12);
        check.faulty(0, "wish 8 lie 1;", 2, 5);
        check.faulty(1, "fine 8 lie;", 2, 5);
        check.faulty(1, "bail 8 lie;", 2, 5);
        check.faulty(1, "give 0 0;", 2, 7);
        check.faulty(1, "give 8 1;", 2, 5);
        check.faulty(1, "stretch 0 0;", 2, 10);
        check.faulty(1, "stretch 9 1;", 2, 8);
        check.faulty(1, "gift 0 0 1;", 2, 7);
        check.faulty(1, "gift 0 8 1;", 2, 7);
        check.faulty(1, "gift 8 0 1;", 2, 5);
        check.faulty(1, "gift 0 1 0;", 2, 9);
        check.faulty(2, "got 8 1;", 2, 4);
        check.good(2, "got 7 99;got 0 0;owed 99;owed 0;");
        check.faulty(3, "tall 8 1;", 2, 5);
        check.faulty(3, "tall 0 0;", 2, 7);
        check.good(3, "tall 7 99;tall 0 1;");
    }

    private static void tooMany() {
        check.good(0, Check.times(8, "person 1;") + Check.times(6, "door 1;") + Check.times(6, "work 1;"));
        check.faulty(0, Check.times(9, "person 1;"), 3, 72);
        check.faulty(0, Check.times(7, "door 1;"), 3, 42);
        check.faulty(0, Check.times(7, "work 1;"), 3, 42);
        check.good(1, Check.times(40, "fine 0 lie;"));
        check.faulty(1, Check.times(41, "fine 0 lie;"), 3, 440);
        check.faulty(1, Check.times(40, "fine 0 lie;") + "gift 0 1 1;", 3, 440);
        check.good(3, Check.times(10, "tall 0 1;"));
        check.faulty(3, Check.times(11, "tall 0 1;"), 3, 90);
    }

    private static void whichFaultIsFirst() {
        check.faulty(0, "person 0;person", 1, 15);
        check.faulty(0, Check.times(9, "person 1;") + "#", 1, 81);
        check.faulty(0, Check.times(8, "person 1;") + "person 0;", 3, 72);
        check.faulty(0, "person 0;" + Check.times(8, "person 1;"), 2, 7);
        check.faulty(0, Check.times(7, "door 1;") + "poor 8;", 3, 42);
        check.faulty(0, "poor 0;caught 11;", 2, 14);
        check.faulty(0, "poor 0;poor 9;" + Check.times(9, "person 1;"), 2, 12);
        check.faulty(0, "child 9 9;wish 9 lie 9;", 2, 6);
        check.faulty(1, "gift 0 0 0;", 2, 7);
    }

    private static void endFaults() {
        check.faulty(0, "poor 0;", 4, 7);
        check.faulty(0, "poor 0;  ", 4, 9);
        check.good(0, "poor 0;person 1;");
        check.faulty(0, "person 1;poor 1;", 4, 16);
        check.faulty(0, "person 1;child 0 1;", 4, 19);
        check.faulty(0, "person 1;child 1 0;", 4, 19);
        check.faulty(0, "person 1;person 1;child 0 7;child 0 1;", 4, 38);
        check.faulty(0, "person 1;door 1;pass 1 0;", 4, 25);
        check.faulty(0, "person 1;wish 1 lie 0;", 4, 22);
        check.faulty(0, "person 1;pass 0 0;", 5, 18);
        check.faulty(0, "person 1;door 5;pass 0 1;", 5, 25);
        check.faulty(0, "person 1;pass 1 0;", 4, 18);
        check.faulty(0, "person 1;person 1;child 0 1;child 1 0;", 6, 38);
        check.faulty(0, "person 1;person 1;child 0 1;child 1 0;pass 0 5;", 5, 47);
        check.faulty(0, Check.times(4, "person 1;") + "child 0 1;child 1 2;child 2 3;child 3 1;", 6, 76);
        check.good(0, "person 1;person 1;person 1;child 0 1;child 1 0;child 0 2;");
        check.good(1, "fine 7 lie;");
        check.good(3, "tall 7 1;");
    }

    private static void boroughs() {
        HeightFine x = Check.withBorough(Check.BOROUGH + "caught 3;costs speed 4;");
        int[] whats = {0, 1, 2, 3, 4, 10, 11, 12, 13, 20, 21, 22, 23, 30, 31, 32, 33, 40, 41, 50, 51, 60, 61, 62};
        int[] answers = {4, 12, 3, 2, 3, 20, 15, 9, 4, 1, NONE, 1, 2, 6, 3, 4, 2, 10, 16, 7, 3, 18, 12, 22};
        for (int k = 0; k < whats.length; k++) {
            check.due("borough(0, " + whats[k] + ")", x.borough(0, whats[k]), answers[k]);
        }
        for (int p = 0; p < 4; p++) {
            for (int o = 0; o < 4; o++) {
                int wish = o > 0 ? 0 : p == 0 ? 4 : p == 1 ? 2 : p == 3 ? 1 : 0;
                check.due("WISH", x.borough(0, 70 + 4 * p + o), wish);
            }
        }
        int[] none = {-1, -70, 5, 9, 14, 19, 24, 29, 34, 39, 42, 49, 52, 59, 63, 69, 86, 101, 102,
            Integer.MIN_VALUE, Integer.MAX_VALUE};
        for (int what : none) {
            check.due("borough(0, " + what + ")", x.borough(0, what), -2);
        }
        check.due("borough(1, 0)", x.borough(1, 0), -2);
        check.due("borough(-1, 0)", x.borough(-1, 0), -2);
        check.due("a second one", Check.tell(x, 0, NONE, Check.times(8, "person 3;") + "wish 7 insult 99;poor 7;"), 1);
        check.due("the last WISH", x.borough(1, 101), 99);
        check.due("the last INCHES", x.borough(1, 17), 3);
        check.due("POOR", x.borough(1, 1), 128);
        check.due("FINES at first", x.borough(1, 30), 6);
        check.due("FINES at first", x.borough(1, 32), 1);
        check.due("the first one stays", x.borough(0, 32), 4);
    }

    private static void laterOnesStrike() {
        HeightFine x = Check.withBorough("person 5;person 6;person 7;poor 0;poor 2;poor 0;door 3;door 4;"
                + "pass 0 1;pass 2 1;pass 0 1;caught 4;caught 6;costs lie 2;costs lie 8;"
                + "wish 1 lie 4;wish 1 lie 5;child 0 1;child 0 2;");
        check.due("POOR", x.borough(0, 1), 5);
        check.due("PASS", x.borough(0, 51), 5);
        check.due("PASS", x.borough(0, 50), 0);
        check.due("CAUGHT", x.borough(0, 2), 6);
        check.due("FINE", x.borough(0, 31), 8);
        check.due("WISH", x.borough(0, 75), 5);
        check.due("PARENT", x.borough(0, 20), 2);
        Check.tell(x, 2, NONE, "got 3 4;owed 5;got 3 0;owed 9;got 4 1;");
        check.due("GOT", x.ledger(0, 13), 0);
        check.due("GOT", x.ledger(0, 14), 1);
        check.due("OWED", x.ledger(0, 0), 9);
    }

    private static void deeds() {
        HeightFine x = new HeightFine();
        check.due("text", Check.tell(x, 1, NONE, "fine 1 insult;bail 2 theft;give 3 40;stretch 4 5;gift 6 7 8;"), 0);
        int[][] due = {{0, 1, 3, NONE}, {1, 2, 0, NONE}, {2, 3, 40, NONE}, {3, 4, 5, NONE}, {4, 6, 7, 8}};
        check.due("how many DEEDS", x.deed(0, NONE, 0), 5);
        for (int k = 0; k < 5; k++) {
            for (int what = 0; what < 4; what++) {
                check.due("deed(0, " + k + ", " + what + ")", x.deed(0, k, what), due[k][what]);
            }
            check.due("what 4", x.deed(0, k, 4), -2);
            check.due("what -1", x.deed(0, k, -1), -2);
        }
        check.due("k 5", x.deed(0, 5, 0), -2);
        check.due("k -2", x.deed(0, -2, 0), -2);
        check.due("how many, what 1", x.deed(0, NONE, 1), -2);
        check.due("another year", x.deed(1, NONE, 0), -2);
        check.due("another year", x.deed(-1, 0, 0), -2);
    }

    private static void facts() {
        HeightFine x = new HeightFine();
        check.due("text", Check.tell(x, 3, NONE, "tall 3 40;tall 0 1;tall 3 41;"), 0);
        check.due("how many FACTS", x.fact(0, NONE, 0), 3);
        int[][] due = {{3, 40}, {0, 1}, {3, 41}};
        for (int k = 0; k < 3; k++) {
            check.due("PERSON", x.fact(0, k, 0), due[k][0]);
            check.due("inches", x.fact(0, k, 1), due[k][1]);
            check.due("what 2", x.fact(0, k, 2), -2);
            check.due("what -1", x.fact(0, k, -1), -2);
        }
        check.due("k 3", x.fact(0, 3, 0), -2);
        check.due("k -2", x.fact(0, -2, 0), -2);
        check.due("how many, what 1", x.fact(0, NONE, 1), -2);
        check.due("another sight", x.fact(1, NONE, 0), -2);
        check.due("another sight", x.fact(-1, NONE, 0), -2);
    }

    private static void images() {
        HeightFine x = Check.withBorough(Check.BOROUGH);
        check.due("image(3)", x.image(3), false);
        check.due("image(-1)", x.image(-1), false);
        Check.tell(x, 1, NONE, "fine 8 lie;");
        Check.feed(x, "owed 5;");
        check.due("image(0)", x.image(0), true);
        check.due("again(1)", x.again(1), false);

        check.due("text", x.text(2, NONE), 0);
        Check.tell(x, 1, NONE, Check.YEAR);
        Check.tell(x, 3, NONE, Check.SIGHT);
        Check.tell(x, 0, NONE, "person 3;");
        Check.tell(x, 0, 0, "person 7;");
        check.due("image(2)", x.image(2), true);

        check.due("again(0)", x.again(0), true);
        check.due("INCHES", x.borough(0, 10), 20);
        check.due("BOROUGHS", x.count(0), 1);
        check.due("YEARS", x.count(1), 0);
        check.due("LEDGERS", x.count(2), 0);
        check.due("SIGHTS", x.count(3), 0);
        check.due("FAULT", x.fault(0), 2);
        check.due("place", x.fault(1), 5);
        check.due("the tape's length", x.end(8), NONE);
        check.due("the tape", x.text(2, NONE), 0);
        check.due("OWED", x.ledger(0, 0), 5);
        check.due("the image has its own", x.again(0), true);
        check.due("LEDGERS", x.count(2), 0);

        check.due("again(2)", x.again(2), true);
        check.due("INCHES", x.borough(0, 10), 7);
        check.due("INCHES", x.borough(1, 10), 3);
        check.due("FAULT", x.fault(0), 0);
        check.due("place", x.fault(1), NONE);
        check.due("DEEDS", x.deed(0, NONE, 0), 10);
        check.due("FACTS", x.fact(0, 1, 1), 4);
        check.due("the tape", x.end(1), NONE);
        check.due("again(-1)", x.again(-1), false);
        check.due("again(3)", x.again(3), false);

        check.due("image(0) anew", x.image(0), true);
        check.due("text", Check.tell(x, 0, 0, ""), 0);
        check.due("again(0)", x.again(0), true);
        check.due("INCHES", x.borough(0, 10), 7);
    }
}
