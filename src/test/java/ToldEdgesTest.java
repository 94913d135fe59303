import java.util.Arrays;

/**
 * The document's boundary cases, sentence by sentence: what is told, what is so at first, what
 * strikes, and promises 6, 7, 16 and 17, which tell it again.
 */
public final class ToldEdgesTest {
    private static final int NONE = HeightFine.NONE;
    private static final int NO_SUCH = -2;
    private static final int LEAST = Integer.MIN_VALUE;
    private static final int GREATEST = Integer.MAX_VALUE;
    private static final int[] FAR = {LEAST, LEAST + 10, -1000, -1, 110, 1000, GREATEST - 70, GREATEST};
    private static final Check check = new Check();

    public static void main(String[] args) {
        offencesByNumber();
        anEmptyBorough();
        aFullBorough();
        aBoroughInPart();
        noSuchBorough();
        whatIsSoAtFirst();
        laterOnesStrike();
        furtherOnes();
        anEmptyYear();
        everyDeed();
        aFullYear();
        noSuchYear();
        anEmptyLedger();
        aFullLedger();
        noSuchLedger();
        anEmptySight();
        aFullSight();
        noSuchSight();
        check.finish();
    }

    /** What is due for each what from -10 to 109. */
    private static int[] nothing() {
        int[] due = new int[120];
        Arrays.fill(due, NO_SUCH);
        return due;
    }

    private static void put(int[] due, int what, int... answers) {
        System.arraycopy(answers, 0, due, 10 + what, answers.length);
    }

    private static void boroughIs(HeightFine x, int borough, int[] due) {
        for (int k = 0; k < due.length; k++) {
            check.due("borough(" + borough + ", " + (k - 10) + ")", x.borough(borough, k - 10), due[k]);
        }
        check.dueToEach("borough, what", what -> x.borough(borough, what), NO_SUCH, FAR);
    }

    private static void offencesByNumber() {
        check.sentence("Terms", "OFFENCES are 0 THEFT, 1 LIE, 2 SPEED, 3 INSULT");
        int[] first = {6, 3, 1, 2};
        for (int o = 0; o < 4; o++) {
            String offence = Lines.OFFENCES[o];
            HeightFine x = Check.withBorough("person 20;costs " + offence + " 9;wish 0 " + offence + " 8;");
            Check.tell(x, 1, NONE, "fine 0 " + offence + ";bail 0 " + offence + ";");
            for (int other = 0; other < 4; other++) {
                check.due("FINE of " + other, x.borough(0, 30 + other), other == o ? 9 : first[other]);
                check.due("WISH for " + other, x.borough(0, 70 + other), other == o ? 8 : 0);
                check.due("HARM of " + other, x.dares(0, other, 1, 1), other == o ? 8 : 0);
            }
            check.due("the OFFENCE of a fine", x.deed(0, 0, 2), o);
            check.due("the OFFENCE of a bail", x.deed(0, 1, 2), o);
            check.due("the PRESS behind the fine", x.state(0, 0, 1, 0), 9);
        }
    }

    private static void anEmptyBorough() {
        check.sentence("Promise 6", "-2: there is none such (of any), or for another what.");
        int[] due = nothing();
        put(due, 0, 0, 0, 5, 0, 0);
        put(due, 30, 6, 3, 1, 2);
        boroughIs(Check.withBorough(""), 0, due);
    }

    private static void aFullBorough() {
        check.sentence("Promise 6", "Of a BOROUGH, what 0: PEOPLE, 1: POOR (bits), 2: CAUGHT, 3: DOORS, 4: WORKS,"
                + " 10 + p, 20 + p: INCHES, PARENT (NONE) of a PERSON, 30 + o: FINE of an OFFENCE,"
                + " 40 + d, 50 + d: TOP, who is to PASS (bits) of a DOOR, 60 + w: REACH of a WORK, 70 + 4 * p + o: WISH.");
        StringBuilder text = new StringBuilder();
        int[] due = nothing();
        put(due, 0, 8, 129, 10, 6, 6);
        for (int p = 0; p < 8; p++) {
            text.append("person ").append(92 + p).append(';');
            put(due, 10 + p, 92 + p);
            put(due, 20 + p, NONE);
            put(due, 70 + 4 * p, 0, 0, 0, 0);
        }
        for (int k = 0; k < 6; k++) {
            text.append("door ").append(1 + k).append(";work ").append(94 + k).append(';');
            text.append("pass ").append(k + 2).append(' ').append(k).append(";pass 0 ").append(k).append(';');
            put(due, 40 + k, 1 + k);
            put(due, 50 + k, 1 << k + 2 | 1);
            put(due, 60 + k, 94 + k);
        }
        put(due, 20, 7);
        put(due, 27, 6);
        put(due, 30, 9, 1, 9, 1);
        put(due, 70, 99);
        put(due, 101, 99);
        text.append("poor 0;poor 7;caught 10;child 0 7;child 7 6;costs theft 9;costs lie 1;costs speed 9;costs insult 1;"
                + "wish 0 theft 99;wish 7 insult 99;");
        HeightFine x = Check.withBorough(text.toString());
        check.due("a second one", x.text(0, NONE), 1);
        boroughIs(x, 0, due);
    }

    private static void aBoroughInPart() {
        check.sentence("Promise 6", "-2: there is none such (of any)");
        for (int many = 1; many <= 5; many++) {
            HeightFine x = Check.withBorough(Check.times(many, "person 8;door 7;work 6;"));
            int[] due = nothing();
            put(due, 0, many, 0, 5, many, many);
            put(due, 30, 6, 3, 1, 2);
            for (int k = 0; k < many; k++) {
                put(due, 10 + k, 8);
                put(due, 20 + k, NONE);
                put(due, 40 + k, 7);
                put(due, 50 + k, 0);
                put(due, 60 + k, 6);
                put(due, 70 + 4 * k, 0, 0, 0, 0);
            }
            boroughIs(x, 0, due);
        }
    }

    private static void noSuchBorough() {
        check.sentence("Promise 6", "-2: there is none such (of any), or for another what.");
        HeightFine x = new HeightFine();
        check.dueToEach("without BOROUGHS, of", b -> x.borough(b, 0), NO_SUCH, LEAST, -2, -1, 0, 1, 2, GREATEST);
        x.text(0, NONE);
        check.due("of the first", x.borough(0, 0), 0);
        check.dueToEach("with one, of", b -> x.borough(b, 0), NO_SUCH, LEAST, -2, -1, 1, 2, GREATEST);
        x.text(0, NONE);
        check.due("of the second", x.borough(1, 0), 0);
        check.dueToEach("with two, of", b -> x.borough(b, 30), NO_SUCH, LEAST, -2, -1, 2, 3, GREATEST);
    }

    private static void whatIsSoAtFirst() {
        check.sentence("Terms", "(0: 6, 1: 3, 2: 1, 3: 2 at first)");
        HeightFine x = Check.withBorough("person 9;person 9;door 5;costs lie 9;");
        int[] fines = {6, 9, 1, 2};
        for (int o = 0; o < 4; o++) {
            check.due("FINE of " + o, x.borough(0, 30 + o), fines[o]);
        }
        check.sentence("Terms", "POOR ones (bits, none at first)");
        check.due("POOR", x.borough(0, 1), 0);
        check.sentence("Terms", "WISH of each PERSON for each, 0 .. 99 (0)");
        check.dueToEach("WISH", what -> x.borough(0, what), 0, 70, 71, 72, 73, 74, 75, 76, 77);
        check.sentence("Terms", "CAUGHT, 0 .. 10 of ten (5)");
        check.due("CAUGHT", x.borough(0, 2), 5);
        check.sentence("Terms", "who is to PASS each (bits, none at first)");
        check.due("PASS", x.borough(0, 50), 0);
        check.sentence("Terms", "each may have a PARENT");
        check.dueToEach("PARENT", what -> x.borough(0, what), NONE, 20, 21);
        check.sentence("Terms", "GOT of each of 8, 0 .. 99 each (0 at first), OWED, 0 .. 99 (0).");
        x.text(2, NONE);
        check.dueToEach("LEDGER", what -> x.ledger(0, what), 0, 0, 10, 11, 12, 13, 14, 15, 16, 17);
        // What is so at first is so again in the place of one that was told otherwise.
        Check.tell(x, 0, 0, "person 9;caught 0;costs theft 9;wish 0 lie 9;poor 0;door 9;pass 0 0;person 9;child 0 1;");
        Check.tell(x, 2, 0, "owed 9;got 0 9;got 7 9;");
        Check.tell(x, 0, 0, "person 9;door 9;");
        x.text(2, 0);
        int[] whats = {0, 1, 2, 20, 30, 31, 50, 71};
        int[] dues = {1, 0, 5, NONE, 6, 3, 0, 0};
        for (int k = 0; k < whats.length; k++) {
            check.due("a new one, what " + whats[k], x.borough(0, whats[k]), dues[k]);
        }
        check.dueToEach("a new LEDGER", what -> x.ledger(0, what), 0, 0, 10, 17);
    }

    private static void laterOnesStrike() {
        check.sentence("Terms", "Later ones strike, but PEOPLE, POOR, DOORS, PASS, WORKS, DEEDS, FACTS, which are further ones.");
        HeightFine x = Check.withBorough("caught 1;caught 10;caught 0;costs theft 9;costs theft 1;costs lie 2;"
                + "person 5;person 6;person 7;wish 1 lie 99;wish 1 lie 0;wish 1 speed 3;wish 2 lie 4;child 0 1;child 0 2;");
        int[] whats = {2, 30, 31, 75, 76, 79, 20};
        int[] dues = {0, 1, 2, 0, 3, 4, 2};
        for (int k = 0; k < whats.length; k++) {
            check.due("what " + whats[k], x.borough(0, whats[k]), dues[k]);
        }
        Check.tell(x, 2, NONE, "owed 99;owed 0;got 0 99;got 0 0;got 7 1;got 7 99;");
        check.due("OWED", x.ledger(0, 0), 0);
        check.due("GOT", x.ledger(0, 10), 0);
        check.due("GOT", x.ledger(0, 17), 99);
    }

    private static void furtherOnes() {
        check.sentence("Terms", "but PEOPLE, POOR, DOORS, PASS, WORKS, DEEDS, FACTS, which are further ones.");
        HeightFine x = Check.withBorough("person 5;person 5;poor 1;poor 1;poor 0;door 5;door 5;work 5;work 5;"
                + "pass 0 1;pass 1 1;pass 1 1;");
        int[] whats = {0, 1, 3, 4, 50, 51};
        int[] dues = {2, 3, 2, 2, 0, 3};
        for (int k = 0; k < whats.length; k++) {
            check.due("what " + whats[k], x.borough(0, whats[k]), dues[k]);
        }
        Check.tell(x, 1, NONE, "fine 0 lie;fine 0 lie;");
        Check.tell(x, 3, NONE, "tall 0 5;tall 0 5;tall 0 6;");
        check.due("DEEDS", x.deed(0, NONE, 0), 2);
        check.due("FACTS", x.fact(0, NONE, 0), 3);
    }

    private static void anEmptyYear() {
        check.sentence("Promise 7", "How many DEEDS (k NONE, what 0)");
        HeightFine x = new HeightFine();
        x.text(1, NONE);
        check.due("no DEEDS", x.deed(0, NONE, 0), 0);
        check.sentence("Promise 7", "-2: there is none such (of either), or for another what.");
        check.dueToEach("DEED", k -> x.deed(0, k, 0), NO_SUCH, LEAST, -2, 0, 1, 39, 40, GREATEST);
        check.dueToEach("how many, what", what -> x.deed(0, NONE, what), NO_SUCH, LEAST, -1, 1, 2, 3, 4, GREATEST);
    }

    private static void everyDeed() {
        check.sentence("Promise 7", "of DEED k, what 0: 0 fine, 1 bail, 2 give, 3 stretch, 4 gift, 1, 2, 3: its numbers"
                + " (fine, bail: the OFFENCE; NONE without).");
        HeightFine x = new HeightFine();
        Check.tell(x, 1, NONE, "fine 7 theft;fine 0 insult;bail 7 theft;bail 0 insult;give 7 99;give 0 1;"
                + "stretch 7 99;stretch 0 1;gift 7 0 99;gift 0 7 1;");
        int[][] due = {{0, 7, 0, NONE}, {0, 0, 3, NONE}, {1, 7, 0, NONE}, {1, 0, 3, NONE}, {2, 7, 99, NONE},
            {2, 0, 1, NONE}, {3, 7, 99, NONE}, {3, 0, 1, NONE}, {4, 7, 0, 99}, {4, 0, 7, 1}};
        for (int k = 0; k < due.length; k++) {
            int deed = k;
            for (int what = 0; what < 4; what++) {
                check.due("deed(0, " + k + ", " + what + ")", x.deed(0, k, what), due[k][what]);
            }
            check.dueToEach("DEED " + k + ", what", what -> x.deed(0, deed, what), NO_SUCH, LEAST, -2, -1, 4, 5, 10, GREATEST);
        }
        check.due("how many", x.deed(0, NONE, 0), 10);
        check.dueToEach("how many, what", what -> x.deed(0, NONE, what), NO_SUCH, LEAST, -1, 1, 2, 3, 4, GREATEST);
        check.dueToEach("DEED", k -> x.deed(0, k, 0), NO_SUCH, LEAST, -2, 10, 11, 40, GREATEST);
    }

    private static void aFullYear() {
        check.sentence("Promise 7", "-2: there is none such (of either), or for another what.");
        StringBuilder text = new StringBuilder();
        for (int k = 0; k < 40; k++) {
            text.append("give ").append(k % 8).append(' ').append(60 + k % 40).append(';');
        }
        HeightFine x = new HeightFine();
        check.due("forty DEEDS", Check.tell(x, 1, NONE, text.toString()), 0);
        for (int k = 0; k < 40; k++) {
            check.due("the kind of " + k, x.deed(0, k, 0), 2);
            check.due("the PERSON of " + k, x.deed(0, k, 1), k % 8);
            check.due("the inches of " + k, x.deed(0, k, 2), 60 + k);
            check.due("no more of " + k, x.deed(0, k, 3), NONE);
        }
        check.due("how many", x.deed(0, NONE, 0), 40);
        check.dueToEach("DEED", k -> x.deed(0, k, 0), NO_SUCH, LEAST, -2, 40, 41, GREATEST);
        check.due("fewer in its place", Check.tell(x, 1, 0, "fine 0 lie;"), 0);
        check.due("how many", x.deed(0, NONE, 0), 1);
        check.due("no DEED of the old one", x.deed(0, 1, 0), NO_SUCH);
    }

    private static void noSuchYear() {
        check.sentence("Promise 7", "-2: there is none such (of either), or for another what.");
        HeightFine x = new HeightFine();
        check.dueToEach("without YEARS, of", y -> x.deed(y, NONE, 0), NO_SUCH, LEAST, -1, 0, 1, 2, GREATEST);
        Check.tell(x, 1, NONE, "fine 0 lie;");
        check.dueToEach("with one, of", y -> x.deed(y, NONE, 0), NO_SUCH, LEAST, -1, 1, 2, GREATEST);
        check.dueToEach("with one, DEED 0 of", y -> x.deed(y, 0, 0), NO_SUCH, LEAST, -1, 1, 2, GREATEST);
        Check.tell(x, 1, NONE, "gift 0 1 2;");
        check.due("the first", x.deed(0, 0, 0), 0);
        check.due("the second", x.deed(1, 0, 0), 4);
        check.dueToEach("with two, of", y -> x.deed(y, 0, 0), NO_SUCH, LEAST, -1, 2, 3, GREATEST);
    }

    private static void ledgerIs(HeightFine x, int ledger, int[] due) {
        for (int k = 0; k < due.length; k++) {
            check.due("ledger(" + ledger + ", " + (k - 10) + ")", x.ledger(ledger, k - 10), due[k]);
        }
        check.dueToEach("ledger, what", what -> x.ledger(ledger, what), NO_SUCH, FAR);
    }

    private static void anEmptyLedger() {
        check.sentence("Promise 16", "-2: there is none such (of any), or for another what.");
        HeightFine x = new HeightFine();
        x.text(2, NONE);
        int[] due = nothing();
        put(due, 0, 0, 0, 1, 0);
        put(due, 10, 0, 0, 0, 0, 0, 0, 0, 0);
        put(due, 20, 0, 0, 0, 0, 0, 0, 0, 0);
        ledgerIs(x, 0, due);
    }

    private static void aFullLedger() {
        check.sentence("Promise 16", "Of a LEDGER, what 0: OWED, 10 + k: GOT of one, 1: BACK");
        StringBuilder text = new StringBuilder("owed 99;");
        for (int k = 0; k < 8; k++) {
            text.append("got ").append(k).append(' ').append(92 + k).append(';');
        }
        HeightFine x = new HeightFine();
        Check.tell(x, 2, NONE, text.toString());
        int[] due = nothing();
        // Of 764 in all the first gives 11 by the cut, the others 12; four remainders are served.
        put(due, 0, 99, 128, 1, 128);
        put(due, 10, 92, 93, 94, 95, 96, 97, 98, 99);
        put(due, 20, 12, 12, 12, 12, 12, 13, 13, 13);
        ledgerIs(x, 0, due);
    }

    private static void noSuchLedger() {
        check.sentence("Promise 16", "-2: there is none such (of any), or for another what.");
        HeightFine x = new HeightFine();
        for (int what : new int[] {0, 1, 2, 3, 10, 17, 20, 27}) {
            check.dueToEach("without LEDGERS, of", l -> x.ledger(l, what), NO_SUCH, LEAST, -1, 0, 1, GREATEST);
        }
        Check.tell(x, 2, NONE, "owed 5;");
        check.dueToEach("with one, of", l -> x.ledger(l, 0), NO_SUCH, LEAST, -1, 1, 2, GREATEST);
        Check.tell(x, 2, NONE, "owed 6;");
        check.due("the first", x.ledger(0, 0), 5);
        check.due("the second", x.ledger(1, 0), 6);
        check.dueToEach("with two, of", l -> x.ledger(l, 0), NO_SUCH, LEAST, -1, 2, 3, GREATEST);
    }

    private static void anEmptySight() {
        check.sentence("Promise 17", "How many FACTS (k NONE, what 0)");
        HeightFine x = new HeightFine();
        x.text(3, NONE);
        check.due("no FACTS", x.fact(0, NONE, 0), 0);
        check.sentence("Promise 17", "-2: there is none such (of either), or for another what.");
        check.dueToEach("FACT", k -> x.fact(0, k, 0), NO_SUCH, LEAST, -2, 0, 1, 9, 10, GREATEST);
        check.dueToEach("how many, what", what -> x.fact(0, NONE, what), NO_SUCH, LEAST, -1, 1, 2, GREATEST);
    }

    private static void aFullSight() {
        check.sentence("Promise 17", "of FACT k, what 0: PERSON, 1: inches.");
        StringBuilder text = new StringBuilder();
        for (int k = 0; k < 10; k++) {
            text.append("tall ").append(7 - k % 8).append(' ').append(k == 9 ? 1 : 99 - k).append(';');
        }
        HeightFine x = new HeightFine();
        check.due("ten FACTS", Check.tell(x, 3, NONE, text.toString()), 0);
        for (int k = 0; k < 10; k++) {
            int fact = k;
            check.due("the PERSON of " + k, x.fact(0, k, 0), 7 - k % 8);
            check.due("the inches of " + k, x.fact(0, k, 1), k == 9 ? 1 : 99 - k);
            check.dueToEach("FACT " + k + ", what", what -> x.fact(0, fact, what), NO_SUCH, LEAST, -2, -1, 2, 3, GREATEST);
        }
        check.due("how many", x.fact(0, NONE, 0), 10);
        check.dueToEach("FACT", k -> x.fact(0, k, 0), NO_SUCH, LEAST, -2, 10, 11, GREATEST);
        check.due("fewer in its place", Check.tell(x, 3, 0, "tall 0 1;"), 0);
        check.due("how many", x.fact(0, NONE, 0), 1);
        check.due("no FACT of the old one", x.fact(0, 1, 0), NO_SUCH);
    }

    private static void noSuchSight() {
        check.sentence("Promise 17", "-2: there is none such (of either), or for another what.");
        HeightFine x = new HeightFine();
        check.dueToEach("without SIGHTS, of", s -> x.fact(s, NONE, 0), NO_SUCH, LEAST, -1, 0, 1, 2, GREATEST);
        Check.tell(x, 3, NONE, "tall 0 1;");
        check.dueToEach("with one, of", s -> x.fact(s, NONE, 0), NO_SUCH, LEAST, -1, 1, 2, GREATEST);
        check.dueToEach("with one, FACT 0 of", s -> x.fact(s, 0, 0), NO_SUCH, LEAST, -1, 1, 2, GREATEST);
        Check.tell(x, 3, NONE, "tall 7 2;");
        check.due("the first", x.fact(0, 0, 0), 0);
        check.due("the second", x.fact(1, 0, 0), 7);
        check.dueToEach("with two, of", s -> x.fact(s, 0, 0), NO_SUCH, LEAST, -1, 2, 3, GREATEST);
    }
}
