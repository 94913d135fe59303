/** Promises 16, 18 and 19: LEDGERS, and what follows from a SIGHT. */
public final class LedgerTest {
    private static final int NONE = HeightFine.NONE;
    private static final Check check = new Check();

    public static void main(String[] args) {
        theLedger();
        back();
        exact();
        fair();
        rows();
        did();
        sureAndAsk();
        wrongArguments();
        check.finish();
    }

    private static HeightFine withLedger(String text) {
        HeightFine x = new HeightFine();
        check.due("the LEDGER", Check.tell(x, 2, NONE, text), 0);
        return x;
    }

    private static void theLedger() {
        HeightFine x = withLedger(Check.LEDGER);
        check.due("OWED", x.ledger(0, 0), 7);
        int[] got = {3, 0, 4, 0, 0, 7, 2, 0};
        for (int k = 0; k < 8; k++) {
            check.due("GOT", x.ledger(0, 10 + k), got[k]);
        }
        check.due("BACK", x.ledger(0, 1), 32);
        check.due("EXACT", x.ledger(0, 2), 2);
        check.due("its first set", x.ledger(0, 3), 5);
        int[] none = {-1, 4, 9, 18, 19, 28, 30, Integer.MIN_VALUE, Integer.MAX_VALUE};
        for (int what : none) {
            check.due("what " + what, x.ledger(0, what), -2);
        }
        check.due("no LEDGER", x.ledger(1, 0), -2);
        check.due("no LEDGER", x.ledger(-1, 1), -2);
    }

    private static void back() {
        check.due("of several the least", withLedger("owed 5;got 3 9;got 1 5;got 0 4;").ledger(0, 1), 2);
        check.due("the fewest", withLedger("owed 9;got 3 9;got 1 5;got 0 4;").ledger(0, 1), 8);
        check.due("together", withLedger("owed 10;got 3 9;got 1 5;got 0 4;").ledger(0, 1), 9);
        check.due("all", withLedger("owed 18;got 3 9;got 1 5;got 0 4;").ledger(0, 1), 11);
        check.due("by none", withLedger("owed 19;got 3 9;got 1 5;got 0 4;").ledger(0, 1), NONE);
        check.due("none OWED", withLedger("got 3 9;").ledger(0, 1), 0);
        check.due("nothing told", withLedger("").ledger(0, 1), 0);
    }

    private static void exact() {
        HeightFine none = withLedger("owed 1;got 3 9;");
        check.due("no way", none.ledger(0, 2), 0);
        check.due("no set", none.ledger(0, 3), NONE);
        HeightFine empty = withLedger("got 3 9;");
        check.due("the empty set", empty.ledger(0, 2), 1);
        check.due("the empty set", empty.ledger(0, 3), 0);
        HeightFine all = withLedger("owed 4;" + Check.times(1, "got 0 1;got 1 1;got 2 1;got 3 1;got 4 1;got 5 1;got 6 1;got 7 1;"));
        check.due("four of eight", all.ledger(0, 2), 70);
        check.due("the first four", all.ledger(0, 3), 15);
        HeightFine byNumbers = withLedger("owed 7;got 1 7;got 0 3;got 5 4;");
        check.due("two ways", byNumbers.ledger(0, 2), 2);
        check.due("0 comes before 1", byNumbers.ledger(0, 3), 33);
    }

    private static void fairIs(String text, int... due) {
        HeightFine x = withLedger(text);
        for (int k = 0; k < 8; k++) {
            check.due("fair of '" + text + "', " + k, x.ledger(0, 20 + k), k < due.length ? due[k] : 0);
        }
    }

    private static void fair() {
        fairIs(Check.LEDGER, 1, 0, 2, 0, 0, 3, 1);
        fairIs("owed 2;got 0 1;got 1 1;got 2 1;", 1, 1, 0);
        fairIs("owed 3;got 0 1;got 1 1;got 2 1;", 1, 1, 1);
        fairIs("owed 4;got 0 1;got 1 1;got 2 1;");
        fairIs("owed 1;got 0 1;got 1 2;got 2 2;", 0, 1, 0);
        fairIs("owed 50;got 0 99;got 7 1;", 50, 0, 0, 0, 0, 0, 0, 0);
        fairIs("owed 49;got 0 99;got 7 1;", 49, 0, 0, 0, 0, 0, 0, 0);
        fairIs("owed 51;got 0 99;got 7 1;", 50, 0, 0, 0, 0, 0, 0, 1);
        fairIs("got 0 99;got 7 1;");
        fairIs("");
        fairIs("owed 1;");
    }

    private static HeightFine withSight(String borough, String sight) {
        HeightFine x = Check.withBorough(borough);
        check.due("the SIGHT", Check.tell(x, 3, NONE, sight), 0);
        return x;
    }

    private static void rows() {
        HeightFine none = withSight("person 50;person 50;", "");
        long all = 1;
        for (int n = 0; n <= 8; n++) {
            check.due("all rows of " + n, none.rows(0, 0, n, NONE, 0), all);
            all *= 8;
        }
        HeightFine eight = withSight(Check.times(8, "person 99;"), "");
        check.due("32 to the 8th", eight.rows(0, 0, 8, NONE, 0), 1L << 40);
        HeightFine low = withSight("person 3;", "");
        check.due("speed or insult", low.rows(0, 0, 1, NONE, 0), 2);
        check.due("speed twice", low.rows(0, 0, 2, NONE, 0), 1);
        check.due("none below 1", low.rows(0, 0, 3, NONE, 0), 0);
        HeightFine told = withSight("person 20;person 20;", "tall 0 14;");
        check.due("one theft", told.rows(0, 0, 1, NONE, 0), 1);
        check.due("two lies, or a theft among others", told.rows(0, 0, 2, NONE, 0), 1 + 2 * 4);
        HeightFine twice = withSight("person 20;person 20;", "tall 0 14;tall 0 14;");
        check.due("a FACT twice", twice.rows(0, 0, 1, NONE, 0), 1);
        HeightFine clash = withSight("person 20;person 20;", "tall 0 14;tall 0 20;");
        check.due("FACTS that clash", clash.rows(0, 0, 1, NONE, 0), 0);
        check.due("FACTS that clash", clash.rows(0, 0, 0, NONE, 0), 0);
        check.due("FACTS that clash", withSight("person 20;", "tall 0 14;tall 0 20;tall 0 14;").rows(0, 0, 1, NONE, 0), 0);
        check.due("taller than at first", withSight("person 20;", "tall 0 21;").rows(0, 0, 1, NONE, 0), 0);
        check.due("as at first", withSight("person 20;", "tall 0 20;").rows(0, 0, 0, NONE, 0), 1);
        check.due("as at first", withSight("person 20;", "tall 0 20;").rows(0, 0, 1, NONE, 0), 0);
        check.due("no PEOPLE", withSight("", "").rows(0, 0, 0, NONE, 0), 1);
        check.due("no PEOPLE", withSight("", "").rows(0, 0, 1, NONE, 0), 0);
        check.due("like FINES", withSight("person 20;costs lie 6;", "tall 0 14;").rows(0, 0, 1, NONE, 0), 2);
        check.due("the greatest loss", withSight("person 99;costs theft 9;", "tall 0 27;").rows(0, 0, 8, NONE, 0), 1);
        check.due("beyond the greatest loss", withSight("person 99;", "tall 0 1;").rows(0, 0, 8, NONE, 0), 0);
    }

    private static void did() {
        HeightFine x = withSight("person 20;person 20;", "tall 0 14;");
        check.due("0 did none", x.rows(0, 0, 2, 0, 0), 0);
        check.due("0 did one", x.rows(0, 0, 2, 0, 1), 8);
        check.due("0 did two", x.rows(0, 0, 2, 0, 2), 1);
        check.due("1 did none", x.rows(0, 0, 2, 1, 0), 1);
        check.due("1 did one", x.rows(0, 0, 2, 1, 1), 8);
        check.due("1 did two", x.rows(0, 0, 2, 1, 2), 0);
        check.due("k above n", x.rows(0, 0, 2, 1, 3), NONE);
        check.due("k below 0", x.rows(0, 0, 2, 1, -1), NONE);
        check.due("k above n, of all", x.rows(0, 0, 2, NONE, 3), NONE);
        check.due("k below 0, of all", x.rows(0, 0, 2, NONE, -1), NONE);
        check.due("any k up to n, of all", x.rows(0, 0, 2, NONE, 2), 9);
    }

    private static void sureAndAsk() {
        HeightFine x = withSight("person 20;person 20;", "tall 0 14;");
        check.due("one DEED, by 0", x.sure(0, 0, 1, 0), 1);
        check.due("one DEED, by 1", x.sure(0, 0, 1, 1), 0);
        check.due("two DEEDS", x.sure(0, 0, 2, 0), NONE);
        check.due("no rows", x.sure(0, 0, 0, 0), NONE);
        check.due("no rows to ask", x.sure(0, 0, 0, NONE), NONE);
        check.due("ask the least of several", x.sure(0, 0, 2, NONE), 0);
        HeightFine three = withSight("person 20;person 9;person 2;", "tall 0 20;");
        // 0 did none in all 25 rows of one and two; 1 and 2 did one or none.
        check.due("ask", three.sure(0, 0, 1, NONE), 1);
        check.due("0 did none", three.sure(0, 0, 1, 0), 0);
        check.due("1: not sure", three.sure(0, 0, 1, 1), NONE);
        HeightFine later = withSight("person 9;person 1;person 9;", "tall 1 1;");
        check.due("no DEED", later.sure(0, 0, 0, 2), 0);
        check.due("ask", later.sure(0, 0, 2, NONE), 0);
        HeightFine better = withSight("person 1;person 9;person 9;", "");
        check.due("ask not whom one knows of", better.sure(0, 0, 1, NONE), 1);
        check.due("no PEOPLE", withSight("", "").sure(0, 0, 0, NONE), NONE);
        check.due("no PEOPLE", withSight("", "").sure(0, 0, 0, 0), NONE);
    }

    private static void wrongArguments() {
        HeightFine x = withSight("person 20;person 20;", "tall 0 14;");
        int[][] wrong = {{1, 0, 1, 0}, {-1, 0, 1, 0}, {0, 1, 1, 0}, {0, -1, 1, 0}, {0, 0, -1, 0}, {0, 0, 9, 0},
            {0, 0, 1, 2}, {0, 0, 1, -2}, {1, 0, 1, NONE}, {0, 1, 1, NONE}, {0, 0, -1, NONE}, {0, 0, 9, NONE}};
        for (int[] w : wrong) {
            check.due("rows", x.rows(w[0], w[1], w[2], w[3], 0), NONE);
            check.due("sure", x.sure(w[0], w[1], w[2], w[3]), NONE);
        }
        HeightFine away = withSight("person 20;person 20;", "tall 0 14;tall 2 5;");
        check.due("one told of is not there", away.rows(0, 0, 1, NONE, 0), NONE);
        check.due("one told of is not there", away.rows(0, 0, 1, 0, 0), NONE);
        check.due("one told of is not there", away.sure(0, 0, 1, 0), NONE);
        check.due("one told of is not there", away.sure(0, 0, 1, NONE), NONE);
    }
}
