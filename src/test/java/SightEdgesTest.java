/**
 * The document's boundary cases, sentence by sentence: term 4, promises 16, 18 and 19: who is to give
 * back by a LEDGER, and what follows from a SIGHT.
 */
public final class SightEdgesTest {
    private static final int NONE = HeightFine.NONE;
    private static final int LEAST = Integer.MIN_VALUE;
    private static final int GREATEST = Integer.MAX_VALUE;
    private static final String ALL_NINETY_NINE = "got 0 99;got 1 99;got 2 99;got 3 99;got 4 99;got 5 99;got 6 99;got 7 99;";
    private static final String ALL_ONE = "got 0 1;got 1 1;got 2 1;got 3 1;got 4 1;got 5 1;got 6 1;got 7 1;";
    private static final Check check = new Check();

    public static void main(String[] args) {
        backJust();
        backOfNothing();
        exactJust();
        exactOfNothing();
        exactFirstByNumbers();
        fairJust();
        fairOfNothing();
        rowsOfNoDeeds();
        rowsOfEightDeeds();
        rowsNoneBelowOne();
        rowsWithoutPeople();
        factsInTheEnd();
        factsThatClash();
        oneToldOfIsNotThere();
        anotherN();
        didOfK();
        rowsOfNone();
        sureOfAll();
        noRows();
        ask();
        sureOfNone();
        check.finish();
    }

    private static HeightFine withLedger(String text) {
        HeightFine x = new HeightFine();
        check.due("the LEDGER", Check.tell(x, 2, NONE, text), 0);
        return x;
    }

    private static void backIs(String text, int due) {
        check.due("BACK of '" + text + "'", withLedger(text).ledger(0, 1), due);
    }

    private static void backJust() {
        check.sentence("Terms", "Of a LEDGER: BACK: the fewest of those who GOT some who GOT as many as are OWED together, or more (bits; of"
                + " several the least)");
        backIs("owed 9;got 0 9;", 1);
        backIs("owed 9;got 0 8;", NONE);
        backIs("owed 9;got 0 10;", 1);
        backIs("owed 9;got 7 9;", 128);
        backIs("owed 9;got 0 8;got 7 1;", 129);
        backIs("owed 10;got 0 8;got 7 1;", NONE);
        backIs("owed 8;" + ALL_ONE, 255);
        backIs("owed 7;" + ALL_ONE, 127);
        backIs("owed 9;" + ALL_ONE, NONE);
        backIs("owed 99;" + ALL_NINETY_NINE, 1);
        backIs("owed 9;got 0 4;got 1 5;got 2 9;got 3 9;", 4);
        backIs("owed 9;got 0 4;got 1 5;got 2 4;got 3 5;", 3);
        backIs("owed 10;got 0 4;got 1 5;got 2 4;got 3 5;", 10);
    }

    private static void backOfNothing() {
        check.sentence("Promise 16", "1: BACK (bits; NONE: by none)");
        backIs("", 0);
        backIs("owed 0;" + ALL_NINETY_NINE, 0);
        backIs("owed 1;", NONE);
        backIs("owed 99;", NONE);
        backIs("owed 1;got 3 0;", NONE);
        backIs("owed 1;got 3 0;got 5 1;", 32);
    }

    private static void exactIs(String text, int ways, int first) {
        check.due("EXACT of '" + text + "'", withLedger(text).ledger(0, 2), ways);
        check.due("its first set, of '" + text + "'", withLedger(text).ledger(0, 3), first);
    }

    private static void exactJust() {
        check.sentence("Terms", "EXACT: in how many ways sets of those who GOT some come to just OWED");
        exactIs("owed 9;got 0 9;", 1, 1);
        exactIs("owed 9;got 0 8;", 0, NONE);
        exactIs("owed 9;got 0 10;", 0, NONE);
        exactIs("owed 9;got 0 8;got 7 1;", 1, 129);
        exactIs("owed 8;" + ALL_ONE, 1, 255);
        exactIs("owed 4;" + ALL_ONE, 70, 15);
        exactIs("owed 1;" + ALL_ONE, 8, 1);
        exactIs("owed 9;" + ALL_ONE, 0, NONE);
        exactIs("owed 99;" + ALL_NINETY_NINE, 8, 1);
        exactIs("owed 98;" + ALL_NINETY_NINE, 0, NONE);
        // Who GOT nothing is in no set, so that he makes no further way.
        exactIs("owed 5;got 0 0;got 1 5;got 2 0;", 1, 2);
    }

    private static void exactOfNothing() {
        check.sentence("Promise 16", "2: EXACT, how many ways, 3: its first set (NONE)");
        exactIs("", 1, 0);
        exactIs("owed 0;" + ALL_NINETY_NINE, 1, 0);
        exactIs("owed 1;", 0, NONE);
        exactIs("owed 99;", 0, NONE);
    }

    private static void exactFirstByNumbers() {
        check.sentence("Terms", "the first set by numbers.");
        exactIs("owed 7;got 0 7;got 1 3;got 2 4;", 2, 1);
        exactIs("owed 7;got 0 3;got 1 4;got 2 7;", 2, 3);
        exactIs("owed 7;got 0 3;got 5 4;got 1 7;", 2, 33);
        exactIs("owed 7;got 1 3;got 2 3;got 3 4;got 4 4;", 4, 10);
    }

    private static void fairIs(String text, int... due) {
        HeightFine x = withLedger(text);
        for (int k = 0; k < 8; k++) {
            check.due("FAIR of '" + text + "', " + k, x.ledger(0, 20 + k), k < due.length ? due[k] : 0);
        }
    }

    private static void fairJust() {
        check.sentence("Terms", "(nothing, if all GOT is below OWED)");
        fairIs("owed 8;" + ALL_ONE, 1, 1, 1, 1, 1, 1, 1, 1);
        fairIs("owed 9;" + ALL_ONE);
        fairIs("owed 9;got 7 9;", 0, 0, 0, 0, 0, 0, 0, 9);
        fairIs("owed 9;got 7 8;");
        fairIs("owed 10;got 0 8;got 7 1;");
        fairIs("owed 9;got 0 8;got 7 1;", 8, 0, 0, 0, 0, 0, 0, 1);
        check.sentence("Terms", "FAIR: each gives back GOT times OWED by all GOT (cut), the rest one by one those with the greatest"
                + " remainders, of several the least number");
        fairIs("owed 7;" + ALL_ONE, 1, 1, 1, 1, 1, 1, 1, 0);
        fairIs("owed 1;" + ALL_ONE, 1);
        fairIs("owed 99;" + ALL_NINETY_NINE, 13, 13, 13, 12, 12, 12, 12, 12);
        fairIs("owed 96;" + ALL_NINETY_NINE, 12, 12, 12, 12, 12, 12, 12, 12);
        fairIs("owed 1;got 0 1;got 1 2;got 2 2;", 0, 1, 0);
        fairIs("owed 1;got 0 1;got 1 2;got 2 3;", 0, 0, 1);
        fairIs("owed 98;got 0 99;got 1 1;", 97, 1);
        fairIs("owed 50;got 0 99;got 1 1;", 50, 0);
        fairIs("owed 50;got 0 1;got 1 99;", 1, 49);
    }

    private static void fairOfNothing() {
        check.sentence("Promise 16", "20 + k: what one gives back by FAIR");
        fairIs("");
        fairIs("owed 0;" + ALL_NINETY_NINE);
        fairIs("owed 1;");
        fairIs("owed 99;");
        fairIs("owed 1;got 3 1;", 0, 0, 0, 1);
    }

    private static HeightFine withSight(String borough, String sight) {
        HeightFine x = Check.withBorough(borough);
        check.due("the SIGHT", Check.tell(x, 3, NONE, sight), 0);
        return x;
    }

    private static void rowsAre(String borough, String sight, int n, long due) {
        String call = "rows of " + n + " in '" + borough + "', '" + sight + "'";
        check.due(call, withSight(borough, sight).rows(0, 0, n, NONE, 0), due);
    }

    private static void rowsOfNoDeeds() {
        check.sentence("Terms", "By a SIGHT, n DEEDS, 0 .. 8: each is a fine of a PERSON for an OFFENCE (none bailed)");
        rowsAre("", "", 0, 1);
        rowsAre("person 1;", "", 0, 1);
        rowsAre("person 1;", "tall 0 1;", 0, 1);
        rowsAre("person 2;", "tall 0 1;", 0, 0);
        rowsAre("person 1;", "tall 0 2;", 0, 0);
        rowsAre(Check.times(8, "person 99;"), Check.times(10, "tall 7 99;"), 0, 1);
    }

    private static void rowsOfEightDeeds() {
        check.sentence("Terms", "By a SIGHT, n DEEDS, 0 .. 8");
        rowsAre("person 99;", "", 8, 65536);
        rowsAre(Check.times(8, "person 99;"), "", 8, 1L << 40);
        rowsAre(Check.times(8, "person 99;"), "", 7, 1L << 35);
        rowsAre("person 99;", "tall 0 91;", 8, 1);
        rowsAre("person 99;", "tall 0 92;", 8, 0);
        rowsAre("person 99;", "tall 0 51;", 8, 1);
        rowsAre("person 99;", "tall 0 50;", 8, 0);
        rowsAre("person 99;costs theft 9;costs lie 9;costs speed 9;costs insult 9;", "tall 0 27;", 8, 65536);
        rowsAre("person 73;costs theft 9;costs lie 9;costs speed 9;costs insult 9;", "tall 0 1;", 8, 65536);
        rowsAre("person 72;costs theft 9;costs lie 9;costs speed 9;costs insult 9;", "", 8, 0);
        rowsAre("person 73;costs theft 9;costs lie 9;costs speed 9;costs insult 9;", "", 8, 65536);
    }

    private static void rowsNoneBelowOne() {
        check.sentence("Terms", "ROWS of n such DEEDS, one behind the other, none below 1 inch");
        rowsAre("person 1;", "", 1, 0);
        rowsAre("person 2;", "", 1, 1);
        rowsAre("person 3;", "", 1, 2);
        rowsAre("person 4;", "", 1, 3);
        rowsAre("person 6;", "", 1, 3);
        rowsAre("person 7;", "", 1, 4);
        rowsAre("person 2;", "", 2, 0);
        rowsAre("person 2;person 2;", "", 2, 2);
        rowsAre("person 9;", "", 8, 1);
        rowsAre("person 8;", "", 8, 0);
        rowsAre(Check.times(8, "person 2;"), "", 8, 40320);
        rowsAre(Check.times(8, "person 1;"), "", 1, 0);
    }

    private static void rowsWithoutPeople() {
        check.sentence("Terms", "ROWS of n such DEEDS");
        rowsAre("", "", 1, 0);
        rowsAre("", "", 8, 0);
        rowsAre("door 9;work 9;", "", 0, 1);
    }

    private static void factsInTheEnd() {
        check.sentence("Terms", "by which all FACTS are so in the end: how many");
        rowsAre("person 20;", "tall 0 20;", 1, 0);
        rowsAre("person 20;", "tall 0 19;", 1, 1);
        rowsAre("person 20;", "tall 0 18;", 1, 1);
        rowsAre("person 20;", "tall 0 16;", 1, 0);
        rowsAre("person 20;", "tall 0 14;", 1, 1);
        rowsAre("person 20;", "tall 0 18;", 2, 1);
        rowsAre("person 20;", "tall 0 17;", 2, 2);
        rowsAre("person 20;", "tall 0 21;", 1, 0);
        rowsAre("person 20;", "tall 0 99;", 1, 0);
        rowsAre("person 7;", "tall 0 1;", 1, 1);
        rowsAre("person 20;person 20;", "tall 0 20;", 1, 4);
        rowsAre("person 20;person 20;", "tall 0 20;tall 1 19;", 1, 1);
        rowsAre("person 20;person 20;", "tall 0 19;tall 1 19;", 2, 2);
        rowsAre("person 20;person 20;", "tall 0 19;tall 1 19;", 1, 0);
    }

    private static void factsThatClash() {
        check.sentence("Terms", "by which all FACTS are so in the end");
        rowsAre("person 20;", Check.times(10, "tall 0 19;"), 1, 1);
        rowsAre("person 20;", Check.times(9, "tall 0 19;") + "tall 0 18;", 1, 0);
        rowsAre("person 20;", "tall 0 18;" + Check.times(9, "tall 0 19;"), 1, 0);
        rowsAre("person 20;", "tall 0 20;tall 0 19;", 0, 0);
        rowsAre("person 20;", "tall 0 19;tall 0 20;tall 0 19;", 1, 0);
    }

    private static void oneToldOfIsNotThere() {
        check.sentence("Promise 18", "NONE: one told of is not there");
        for (int people = 0; people <= 8; people++) {
            String there = Check.times(people, "person 20;");
            if (people < 8) {
                HeightFine x = withSight(there, "tall " + people + " 20;");
                check.due("all rows, " + people + " PEOPLE", x.rows(0, 0, 0, NONE, 0), NONE);
                check.due("DID of the first, " + people + " PEOPLE", x.rows(0, 0, 0, 0, 0), NONE);
                check.due("SURE, " + people + " PEOPLE", x.sure(0, 0, 0, 0), NONE);
                check.due("ASK, " + people + " PEOPLE", x.sure(0, 0, 0, NONE), NONE);
            }
            if (people > 0) {
                HeightFine x = withSight(there, "tall " + (people - 1) + " 20;");
                check.due("the last one, " + people + " PEOPLE", x.rows(0, 0, 0, NONE, 0), 1);
                check.due("SURE of the last one", x.sure(0, 0, 0, people - 1), 0);
                check.due("ASK", x.sure(0, 0, 0, NONE), 0);
            }
        }
        HeightFine last = withSight("person 20;", Check.times(9, "tall 0 20;") + "tall 1 20;");
        check.due("the tenth FACT", last.rows(0, 0, 0, NONE, 0), NONE);
    }

    private static void anotherN() {
        check.sentence("Promise 18", "another n");
        HeightFine x = withSight("person 20;person 20;", "");
        for (int person : new int[] {NONE, 0, 1}) {
            check.dueToEach("n", n -> x.rows(0, 0, n, person, 0), NONE, LEAST, -2, -1, 9, 10, GREATEST);
            check.dueToEach("n and k", n -> x.rows(0, 0, n, person, n), NONE, LEAST, -2, -1, 9, 10, GREATEST);
            check.dueToEach("sure, n", n -> x.sure(0, 0, n, person), NONE, LEAST, -2, -1, 9, 10, GREATEST);
        }
        check.due("n 0", x.rows(0, 0, 0, NONE, 0), 1);
        check.due("n 8", x.rows(0, 0, 8, NONE, 0) > 0, true);
        check.due("n 8, ASK", x.sure(0, 0, 8, NONE), 0);
    }

    private static void didOfK() {
        check.sentence("Promise 18", "ROWS of n DEEDS (person NONE), or DID of a PERSON, k. NONE: one told of is not there, another n, k above n"
                + " or below 0");
        HeightFine x = withSight("person 20;person 20;", "tall 0 18;");
        for (int person : new int[] {NONE, 0, 1}) {
            for (int n = 0; n <= 8; n++) {
                int deeds = n;
                check.dueToEach("k of " + n, k -> x.rows(0, 0, deeds, person, k), NONE, LEAST, -2, -1, n + 1, n + 2, GREATEST);
                check.due("k 0 of " + n, x.rows(0, 0, n, person, 0) >= 0, true);
                check.due("k n of " + n, x.rows(0, 0, n, person, n) >= 0, true);
            }
        }
        check.due("whatever k up to n is, of all", x.rows(0, 0, 2, NONE, 0), x.rows(0, 0, 2, NONE, 2));
        check.sentence("Terms", "DID of a PERSON, k: in how many of these he did k");
        long[] first = {0, 8, 1};
        long[] second = {1, 8, 0};
        for (int k = 0; k <= 2; k++) {
            check.due("0 did " + k, x.rows(0, 0, 2, 0, k), first[k]);
            check.due("1 did " + k, x.rows(0, 0, 2, 1, k), second[k]);
        }
        HeightFine none = withSight("person 20;", "");
        check.due("0 DEEDS, k 0", none.rows(0, 0, 0, 0, 0), 1);
        check.due("8 DEEDS, k 8", withSight("person 99;", "").rows(0, 0, 8, 0, 8), 65536);
        check.due("8 DEEDS, k 7", withSight("person 99;", "").rows(0, 0, 8, 0, 7), 0);
    }

    private static void rowsOfNone() {
        check.sentence("Promise 18", "or there is none such (of any).");
        HeightFine x = new HeightFine();
        check.due("neither", x.rows(0, 0, 0, NONE, 0), NONE);
        x.text(0, NONE);
        check.due("no SIGHT", x.rows(0, 0, 0, NONE, 0), NONE);
        x.text(3, NONE);
        check.due("both", x.rows(0, 0, 0, NONE, 0), 1);
        check.due("no such PERSON, there being none", x.rows(0, 0, 0, 0, 0), NONE);
        check.dueToEach("BOROUGH", b -> x.rows(b, 0, 0, NONE, 0), NONE, LEAST, -2, -1, 1, 2, GREATEST);
        check.dueToEach("SIGHT", s -> x.rows(0, s, 0, NONE, 0), NONE, LEAST, -2, -1, 1, 2, GREATEST);
        Check.tell(x, 0, NONE, "person 20;person 20;");
        Check.tell(x, 3, NONE, "tall 1 20;");
        check.due("the second of both", x.rows(1, 1, 0, NONE, 0), 1);
        check.due("the first BOROUGH, the second SIGHT", x.rows(0, 1, 0, NONE, 0), NONE);
        check.dueToEach("PERSON", p -> x.rows(1, 1, 0, p, 0), NONE, LEAST, -3, -2, 2, 3, 7, 8, GREATEST);
        check.dueToEach("PERSON", p -> x.rows(1, 1, 0, p, 0), 1, 0, 1);
        HeightFine noBorough = new HeightFine();
        noBorough.text(3, NONE);
        check.due("no BOROUGH", noBorough.rows(0, 0, 0, NONE, 0), NONE);
    }

    private static void sureOfAll() {
        check.sentence("Terms", "SURE: how many he did in all, if so.");
        HeightFine x = withSight("person 20;person 20;", "tall 0 18;");
        check.due("one DEED, 0", x.sure(0, 0, 1, 0), 1);
        check.due("one DEED, 1", x.sure(0, 0, 1, 1), 0);
        check.due("two DEEDS, 0", x.sure(0, 0, 2, 0), NONE);
        check.due("two DEEDS, 1", x.sure(0, 0, 2, 1), NONE);
        check.due("no DEEDS", withSight("person 20;", "").sure(0, 0, 0, 0), 0);
        check.due("eight DEEDS", withSight("person 99;", "").sure(0, 0, 8, 0), 8);
        check.due("eight DEEDS, one of two", withSight("person 1;person 99;", "").sure(0, 0, 8, 1), 8);
        check.due("eight DEEDS, the other one", withSight("person 1;person 99;", "").sure(0, 0, 8, 0), 0);
        check.due("eight did eight", withSight(Check.times(8, "person 2;"), "").sure(0, 0, 8, 7), 1);
    }

    private static void noRows() {
        check.sentence("Promise 19", "SURE of a PERSON, or (person NONE) ASK. NONE: there is none, there are no ROWS, no PEOPLE, as rows(), or"
                + " there is none such.");
        HeightFine none = withSight("person 1;person 1;", "");
        for (int person : new int[] {NONE, 0, 1}) {
            check.due("no ROWS", none.sure(0, 0, 1, person), NONE);
            check.due("no ROWS", none.sure(0, 0, 8, person), NONE);
            check.due("FACTS that can't be", withSight("person 20;person 20;", "tall 0 21;").sure(0, 0, 0, person), NONE);
            for (int n = 0; n <= 8; n++) {
                check.due("no PEOPLE", withSight("", "").sure(0, 0, n, person), NONE);
            }
        }
        check.due("ROWS of no DEED, ASK", none.sure(0, 0, 0, NONE), 0);
        check.due("ROWS of no DEED, SURE", none.sure(0, 0, 0, 1), 0);
    }

    private static void ask() {
        check.sentence("Terms", "ASK: the PERSON for whom the greatest of DID is least, of several the least.");
        check.due("one alone", withSight("person 9;", "").sure(0, 0, 1, NONE), 0);
        check.due("all alike", withSight(Check.times(8, "person 20;"), "").sure(0, 0, 3, NONE), 0);
        check.due("both known, the least", withSight("person 1;person 20;", "").sure(0, 0, 1, NONE), 0);
        check.due("not who can't", withSight("person 1;person 20;person 20;", "").sure(0, 0, 1, NONE), 1);
        check.due("the last", withSight(Check.times(6, "person 1;") + "person 2;person 3;", "").sure(0, 0, 1, NONE), 6);
        check.due("the last two, as likely", withSight(Check.times(6, "person 1;") + "person 20;person 20;", "")
                .sure(0, 0, 2, NONE), 6);
        // Of the 29 rows 0 did none in 28, each of the others none in 25.
        check.due("of whom one knows less", withSight("person 2;" + Check.times(7, "person 7;"), "").sure(0, 0, 1, NONE), 1);
    }

    private static void sureOfNone() {
        check.sentence("Promise 19", "NONE: there is none, there are no ROWS, no PEOPLE, as rows(), or there is none such.");
        HeightFine x = new HeightFine();
        check.due("neither", x.sure(0, 0, 0, NONE), NONE);
        Check.tell(x, 0, NONE, "person 20;person 20;");
        check.due("no SIGHT", x.sure(0, 0, 0, NONE), NONE);
        x.text(3, NONE);
        check.due("both", x.sure(0, 0, 0, NONE), 0);
        check.dueToEach("BOROUGH", b -> x.sure(b, 0, 0, NONE), NONE, LEAST, -2, -1, 1, 2, GREATEST);
        check.dueToEach("SIGHT", s -> x.sure(0, s, 0, NONE), NONE, LEAST, -2, -1, 1, 2, GREATEST);
        check.dueToEach("PERSON", p -> x.sure(0, 0, 0, p), NONE, LEAST, -3, -2, 2, 3, 7, 8, GREATEST);
        check.dueToEach("PERSON", p -> x.sure(0, 0, 0, p), 0, 0, 1);
        HeightFine noBorough = new HeightFine();
        noBorough.text(3, NONE);
        check.due("no BOROUGH", noBorough.sure(0, 0, 0, NONE), NONE);
    }
}
