import java.util.function.IntToLongFunction;

/**
 * The document's boundary cases, sentence by sentence: terms 3 and 6, promises 10 to 15 and 21 to 26:
 * what follows from a BOROUGH as told.
 */
public final class BoroughEdgesTest {
    private static final int NONE = HeightFine.NONE;
    private static final int NO_SUCH = -2;
    private static final int LEAST = Integer.MIN_VALUE;
    private static final int GREATEST = Integer.MAX_VALUE;
    private static final int[] NOT_TO_NINETY_NINE = {LEAST, -2, -1, 100, 101, GREATEST};
    private static final String CHAIN = "child 1 0;child 2 1;child 3 2;child 4 3;child 5 4;child 6 5;child 7 6;";
    private static final Check check = new Check();

    public static void main(String[] args) {
        reachedJust();
        reachedOfNothing();
        reachedByFewestInches();
        reachedByAll();
        reachedFirstByNumbers();
        reachedOfWhat();
        cutJust();
        cutOfNothing();
        cutFirstByNumbers();
        cutOfWhat();
        loveJust();
        evenJust();
        evenByNone();
        loveOfWhat();
        daresJust();
        daresAtTheEnds();
        detersAndBest();
        daresOfWhat();
        shareJust();
        shareOfAChain();
        shareOfWhat();
        elderOfTwo();
        elderOfNone();
        familyOfOne();
        familyOfWhat();
        viewsOfAnyNumber();
        shouldersJust();
        hatsOfLikeOnes();
        teamsOfTwo();
        assumedJust();
        assumedNoneSoLow();
        assumedWisest();
        assumedOfWhat();
        asToldWorksAndDoors();
        asToldPeople();
        check.finish();
    }

    private static HeightFine with(String text) {
        return Check.withBorough(text);
    }

    private static String person(int inches) {
        return "person " + inches + ";";
    }

    /** No BOROUGH, then one, then two: a call that is asked of others answers what is due for none. */
    private static void noSuchBorough(int due, HeightFine x, IntToLongFunction asked) {
        check.dueToEach("without BOROUGHS, of", asked, due, LEAST, -2, -1, 0, 1, 2, GREATEST);
        Check.tell(x, 0, NONE, "person 9;person 8;door 7;work 6;");
        check.due("the first answers", asked.applyAsLong(0) != due, true);
        check.dueToEach("with one, of", asked, due, LEAST, -2, -1, 1, 2, GREATEST);
        Check.tell(x, 0, NONE, "person 9;person 8;door 7;work 6;");
        check.due("the second answers", asked.applyAsLong(1) != due, true);
        check.dueToEach("with two, of", asked, due, LEAST, -2, -1, 2, 3, GREATEST);
    }

    private static void reachedIs(String text, int n, int many, int fewest, int... who) {
        HeightFine x = with(text);
        String call = "reached of " + n + " in '" + text + "'";
        check.due(call, x.reached(0, n, 0), many);
        check.due(call + ", inches", x.reached(0, n, 1), fewest);
        for (int w = 0; w < who.length; w++) {
            check.due(call + ", WORK " + w, x.reached(0, n, 10 + w), who[w]);
        }
        check.due(call + ", no further WORK", x.reached(0, n, 10 + who.length), NONE);
    }

    private static void reachedJust() {
        check.sentence("Terms", "the most WORKS done, each by a PERSON as tall as its REACH, or taller");
        for (int reach : new int[] {1, 2, 50, 99}) {
            reachedIs(person(reach) + "work " + reach + ";", 0, 1, 0, 0);
            reachedIs("person 99;work " + reach + ";", 0, 1, 0, 0);
            if (reach > 1) {
                reachedIs(person(reach - 1) + "work " + reach + ";", 0, 0, 0, 8);
                reachedIs(person(reach - 1) + "work " + reach + ";", 1, 1, 1, 0);
            }
        }
        check.sentence("Terms", "REACHED of n, 0 .. 99, inches that are given to PEOPLE as one likes");
        reachedIs("person 1;work 99;", 97, 0, 0, 8);
        reachedIs("person 1;work 99;", 98, 1, 98, 0);
        reachedIs("person 1;work 99;", 99, 1, 98, 0);
        reachedIs("person 1;person 98;work 99;work 99;", 98, 1, 1, 1, 8);
        reachedIs("person 1;person 98;work 99;work 99;", 99, 2, 99, 0, 1);
        reachedIs("person 2;person 98;work 99;work 99;", 97, 1, 1, 1, 8);
        reachedIs("person 2;person 98;work 99;work 99;", 98, 2, 98, 0, 1);
    }

    private static void reachedOfNothing() {
        check.sentence("Terms", "the row by WORKS of who does it (8: nobody)");
        for (int n : new int[] {0, 99}) {
            reachedIs("", n, 0, 0);
            reachedIs("person 99;", n, 0, 0);
            reachedIs(Check.times(6, "work 1;"), n, 0, 0, 8, 8, 8, 8, 8, 8);
            reachedIs("person 9;" + Check.times(6, "work 9;"), n, 1, 0, 0, 8, 8, 8, 8, 8);
        }
        reachedIs(Check.times(8, "person 1;") + "work 2;", 0, 0, 0, 8);
    }

    private static void reachedByFewestInches() {
        check.sentence("Terms", "the fewest inches for so many");
        reachedIs("person 5;person 7;work 8;", 0, 0, 0, 8);
        reachedIs("person 5;person 7;work 8;", 1, 1, 1, 1);
        reachedIs("person 5;person 7;work 8;", 3, 1, 1, 1);
        reachedIs("person 5;person 7;work 8;", 99, 1, 1, 1);
        reachedIs("person 5;person 7;work 8;work 6;", 1, 1, 0, 8, 1);
        reachedIs("person 5;person 7;work 8;work 6;", 2, 2, 2, 1, 0);
        reachedIs("person 5;person 7;work 99;work 99;", 99, 1, 92, 1, 8);
        reachedIs(Check.times(8, "person 93;") + Check.times(6, "work 99;"), 99, 6, 36, 0, 1, 2, 3, 4, 5);
    }

    private static void reachedByAll() {
        check.sentence("Terms", "then, each by another one");
        String six = Check.times(6, "work 10;");
        reachedIs(Check.times(8, "person 10;") + six, 0, 6, 0, 0, 1, 2, 3, 4, 5);
        reachedIs(Check.times(8, "person 9;") + six, 5, 5, 5, 0, 1, 2, 3, 4, 8);
        reachedIs(Check.times(8, "person 9;") + six, 6, 6, 6, 0, 1, 2, 3, 4, 5);
        reachedIs(Check.times(2, "person 9;") + Check.times(6, "person 10;") + six, 0, 6, 0, 2, 3, 4, 5, 6, 7);
        reachedIs(Check.times(5, "person 10;") + six, 99, 5, 0, 0, 1, 2, 3, 4, 8);
    }

    private static void reachedFirstByNumbers() {
        check.sentence("Terms", "the first by numbers of those of the most WORKS and fewest inches");
        reachedIs("person 9;person 9;work 9;", 0, 1, 0, 0);
        reachedIs("person 8;person 9;work 9;", 99, 1, 0, 1);
        reachedIs("person 9;work 9;work 9;", 0, 1, 0, 0, 8);
        reachedIs("person 9;person 12;work 9;work 12;", 0, 2, 0, 0, 1);
        reachedIs("person 12;person 9;work 9;work 12;", 0, 2, 0, 1, 0);
        reachedIs("person 5;person 6;work 8;work 7;", 99, 2, 4, 0, 1);
    }

    private static void reachedOfWhat() {
        check.sentence("Promise 10", "REACHED of n, what 0: how many, 1: the fewest inches, 10 + w: who does a WORK. NONE: there is none such (of any), another n, or for another what.");
        for (int works = 0; works <= 6; works++) {
            HeightFine x = with("person 9;" + Check.times(works, "work 9;"));
            for (int what = -20; what <= 30; what++) {
                boolean work = what >= 10 && what < 10 + works;
                int due = what == 0 ? Math.min(1, works) : what == 1 ? 0 : work ? what == 10 ? 0 : 8 : NONE;
                check.due("reached of " + works + ", what " + what, x.reached(0, 0, what), due);
            }
            check.dueToEach("reached, what", what -> x.reached(0, 0, what), NONE, LEAST, LEAST + 10, GREATEST);
            check.dueToEach("reached, n", n -> x.reached(0, n, 0), NONE, NOT_TO_NINETY_NINE);
            check.dueToEach("inches, n", n -> x.reached(0, n, 1), NONE, NOT_TO_NINETY_NINE);
            check.dueToEach("WORK, n", n -> x.reached(0, n, 10), NONE, NOT_TO_NINETY_NINE);
        }
        HeightFine x = new HeightFine();
        noSuchBorough(NONE, x, b -> x.reached(b, 0, 0));
    }

    private static void cutIs(String text, int n, int many, int... raise) {
        HeightFine x = with(text);
        String call = "cut of " + n + " in '" + text + "'";
        check.due(call, x.cut(0, n, 0), many);
        for (int d = 0; d < raise.length; d++) {
            check.due(call + ", DOOR " + d, x.cut(0, n, 10 + d), raise[d]);
        }
        check.due(call + ", no further DOOR", x.cut(0, n, 10 + raise.length), NONE);
    }

    private static void cutJust() {
        check.sentence("Terms", "whose TOP is not below his INCHES, when the TOPS are raised by n together at most");
        for (int top : new int[] {1, 50, 98}) {
            cutIs(person(top) + "door " + top + ";pass 0 0;", 0, 1, 0);
            cutIs(person(top + 1) + "door " + top + ";pass 0 0;", 0, 0, 0);
            cutIs(person(top + 1) + "door " + top + ";pass 0 0;", 1, 1, 1);
            cutIs(person(top) + "door " + (top + 1) + ";pass 0 0;", 0, 1, 0);
        }
        cutIs("person 99;door 1;pass 0 0;", 97, 0, 0);
        cutIs("person 99;door 1;pass 0 0;", 98, 1, 98);
        cutIs("person 99;door 1;pass 0 0;", 99, 1, 98);
        cutIs("person 99;door 1;door 98;pass 0 0;pass 0 1;", 98, 1, 0, 1);
        cutIs("person 99;door 1;door 98;pass 0 0;pass 0 1;", 99, 2, 98, 1);
        String six = Check.times(6, "door 8;") + "pass 0 0;pass 0 1;pass 0 2;pass 0 3;pass 0 4;pass 0 5;";
        cutIs("person 9;" + six, 5, 5, 0, 1, 1, 1, 1, 1);
        cutIs("person 9;" + six, 6, 6, 1, 1, 1, 1, 1, 1);
        cutIs("person 9;" + six, 7, 6, 1, 1, 1, 1, 1, 1);
    }

    private static void cutOfNothing() {
        check.sentence("Terms", "CUT of n: the most couples of a PERSON who is to PASS a DOOR and that DOOR");
        for (int n : new int[] {0, 99}) {
            cutIs("", n, 0);
            cutIs("person 9;", n, 0);
            cutIs("door 9;door 1;", n, 0, 0, 0);
            cutIs("person 9;door 9;door 8;", n, 0, 0, 0);
            cutIs("person 9;person 5;door 7;pass 1 0;", n, 1, 0);
        }
        StringBuilder all = new StringBuilder(Check.times(8, "person 9;") + Check.times(6, "door 9;"));
        for (int k = 0; k < 48; k++) {
            all.append("pass ").append(k % 8).append(' ').append(k / 8).append(';');
        }
        cutIs(all.toString(), 0, 48, 0, 0, 0, 0, 0, 0);
    }

    private static void cutFirstByNumbers() {
        check.sentence("Terms", "the row of raises by DOORS, the first by numbers");
        cutIs("person 9;door 8;door 8;pass 0 0;pass 0 1;", 1, 1, 0, 1);
        cutIs("person 9;door 8;door 7;pass 0 0;pass 0 1;", 2, 1, 0, 2);
        cutIs("person 9;door 8;door 7;pass 0 0;pass 0 1;", 1, 1, 1, 0);
        cutIs("person 9;door 8;door 8;door 8;pass 0 0;pass 0 1;pass 0 2;", 2, 2, 0, 1, 1);
        cutIs("person 9;person 9;door 8;door 8;pass 0 0;pass 1 0;pass 0 1;", 1, 2, 1, 0);
    }

    private static void cutOfWhat() {
        check.sentence("Promise 11", "CUT of n, 0 .. 99, what 0: how many couples, 10 + d: the raise of a DOOR. NONE: there is none such (of any), another n, or for another what.");
        for (int doors = 0; doors <= 6; doors++) {
            HeightFine x = with("person 9;" + Check.times(doors, "door 8;"));
            for (int what = -20; what <= 30; what++) {
                boolean door = what >= 10 && what < 10 + doors;
                check.due("cut of " + doors + ", what " + what, x.cut(0, 5, what), what == 0 || door ? 0 : NONE);
            }
            check.dueToEach("cut, what", what -> x.cut(0, 5, what), NONE, LEAST, LEAST + 10, GREATEST);
            check.dueToEach("cut, n", n -> x.cut(0, n, 0), NONE, NOT_TO_NINETY_NINE);
            check.dueToEach("DOOR, n", n -> x.cut(0, n, 10), NONE, NOT_TO_NINETY_NINE);
            check.dueToEach("cut, n", n -> x.cut(0, n, 0), 0, 0, 1, 98, 99);
        }
        HeightFine x = new HeightFine();
        noSuchBorough(NONE, x, b -> x.cut(b, 0, 0));
    }

    private static void loveIs(String text, int n, int due) {
        check.due("love of " + n + " in '" + text + "'", with(text).love(0, n, false), due);
    }

    private static void loveJust() {
        check.sentence("Terms", "LOVE of n: the most couples, each PERSON in one, whose INCHES differ by n or less.");
        for (int apart = 0; apart <= 98; apart++) {
            String two = "person 1;" + person(1 + apart);
            loveIs(two, apart, 1);
            loveIs(two, 99, 1);
            if (apart > 0) {
                loveIs(two, apart - 1, 0);
                loveIs(two, 0, 0);
            }
        }
        loveIs("", 0, 0);
        loveIs("", 99, 0);
        loveIs("person 9;", 99, 0);
        loveIs(Check.times(7, "person 9;"), 0, 3);
        loveIs(Check.times(8, "person 9;"), 0, 4);
        loveIs("person 1;person 3;person 5;person 7;", 2, 2);
        loveIs("person 1;person 3;person 5;person 7;", 1, 0);
        loveIs("person 3;person 1;person 5;", 2, 1);
    }

    private static void evenIs(String text, int n, int due) {
        check.due("even of " + n + " in '" + text + "'", with(text).love(0, n, true), due);
    }

    private static void evenJust() {
        check.sentence("Terms", "EVEN of n: the fewest inches that are to go from one to another so that no two PEOPLE differ by"
                + " more than n");
        evenIs("", 0, 0);
        evenIs("", 99, 0);
        evenIs("person 99;", 0, 0);
        evenIs("person 1;person 99;", 98, 0);
        evenIs("person 1;person 99;", 97, 1);
        evenIs("person 1;person 99;", 96, 1);
        evenIs("person 1;person 99;", 95, 2);
        evenIs("person 1;person 99;", 0, 49);
        evenIs("person 1;person 99;", 99, 0);
        evenIs("person 99;person 99;person 98;", 1, 0);
        evenIs(Check.times(8, "person 99;"), 0, 0);
        evenIs(Check.times(8, "person 1;"), 0, 0);
        evenIs(Check.times(4, "person 99;person 1;"), 0, 196);
        evenIs(Check.times(7, "person 1;") + "person 9;", 0, 7);
        evenIs(Check.times(7, "person 1;") + "person 8;", 1, 6);
        evenIs(Check.times(7, "person 1;") + "person 8;", 7, 0);
    }

    private static void evenByNone() {
        check.sentence("Terms", "(NONE: by none)");
        for (int more = 1; more <= 7; more++) {
            evenIs(Check.times(7, "person 20;") + person(20 + more), 0, NONE);
            evenIs(Check.times(7, "person 20;") + person(20 + more), 1, more - 1);
        }
        evenIs(Check.times(7, "person 20;") + person(28), 0, 7);
        evenIs("person 1;person 2;", 0, NONE);
        evenIs("person 1;person 2;", 1, 0);
        evenIs("person 99;person 98;", 0, NONE);
    }

    private static void loveOfWhat() {
        check.sentence("Promise 12", "LOVE of n, 0 .. 99, or (even) EVEN. NONE: there is none such, another n; EVEN: by none.");
        for (boolean even : new boolean[] {false, true}) {
            HeightFine x = with("person 9;person 9;");
            check.dueToEach("love, n", n -> x.love(0, n, even), NONE, NOT_TO_NINETY_NINE);
            check.dueToEach("love, n", n -> x.love(0, n, even), even ? 0 : 1, 0, 1, 98, 99);
            HeightFine y = new HeightFine();
            noSuchBorough(NONE, y, b -> y.love(b, 1, even));
        }
    }

    private static void daresIs(String text, int offence, int f, int who, int harm, int taken) {
        HeightFine x = with(text);
        String call = "OFFENCE " + offence + ", FINE " + f + " in '" + text + "', ";
        check.due(call + "DARES", x.dares(0, offence, f, 0), who);
        check.due(call + "HARM", x.dares(0, offence, f, 1), harm);
        check.due(call + "TAKEN", x.dares(0, offence, f, 2), taken);
    }

    private static void daresJust() {
        check.sentence("Terms", "Of an OFFENCE, a FINE, f: a PERSON DARES it, if 10 times his WISH is above f times CAUGHT: DARES: who"
                + " (bits)");
        for (int caught = 0; caught <= 10; caught++) {
            for (int f = 1; f <= 9; f++) {
                for (int wish : new int[] {f * caught / 10, f * caught / 10 + 1}) {
                    boolean dares = 10 * wish > f * caught;
                    daresIs("person 1;caught " + caught + ";wish 0 lie " + wish + ";", 1, f, dares ? 1 : 0,
                            dares ? wish : 0, dares ? f * caught : 0);
                }
            }
        }
        daresIs("person 1;wish 0 lie 1;", 1, 2, 0, 0, 0);
        daresIs("person 1;wish 0 lie 1;", 1, 1, 1, 1, 5);
        daresIs("person 1;caught 10;wish 0 lie 9;", 1, 9, 0, 0, 0);
        daresIs("person 1;caught 10;wish 0 lie 10;", 1, 9, 1, 10, 90);
    }

    private static void daresAtTheEnds() {
        check.sentence("Terms", "HARM of f: sum of WISHES of those who DARE it; TAKEN: f times CAUGHT times how many DARE (tenths of inches).");
        for (int o = 0; o < 4; o++) {
            StringBuilder all = new StringBuilder(Check.times(8, "person 1;") + "caught 10;");
            for (int p = 0; p < 8; p++) {
                all.append("wish ").append(p).append(' ').append(Lines.OFFENCES[o]).append(" 99;");
            }
            daresIs(all.toString(), o, 9, 255, 792, 720);
            daresIs(all.toString(), o, 1, 255, 792, 80);
            daresIs(all.toString(), (o + 1) % 4, 1, 0, 0, 0);
            daresIs(all + "caught 0;", o, 9, 255, 792, 0);
        }
        daresIs("", 0, 1, 0, 0, 0);
        daresIs("caught 0;", 3, 9, 0, 0, 0);
        daresIs("person 1;caught 0;", 0, 1, 0, 0, 0);
        daresIs("person 1;person 1;caught 0;wish 1 theft 1;", 0, 9, 2, 1, 0);
    }

    private static void detersIs(String text, int deters, int best) {
        HeightFine x = with(text);
        for (int f : new int[] {LEAST, -1, 0, 1, 9, 10, GREATEST}) {
            check.due("DETERS, f " + f + ", in '" + text + "'", x.dares(0, 1, f, 3), deters);
            check.due("BEST, f " + f + ", in '" + text + "'", x.dares(0, 1, f, 4), best);
        }
    }

    private static void detersAndBest() {
        check.sentence("Terms", "DETERS: the least FINE, 1 to 9, by which nobody does");
        for (int wish = 0; wish <= 12; wish++) {
            int deters = wish == 0 ? 1 : wish <= 9 ? wish : NONE;
            check.due("DETERS, always caught, a WISH of " + wish, with("person 1;caught 10;wish 0 lie " + wish + ";")
                    .dares(0, 1, 1, 3), deters);
        }
        check.sentence("Promise 13", "3: DETERS (NONE: none), 4: BEST (3, 4: whatever f is).");
        detersIs("", 1, 1);
        detersIs("person 1;", 1, 1);
        detersIs("person 1;caught 0;", 1, 1);
        detersIs("person 1;caught 0;wish 0 lie 1;", NONE, 1);
        detersIs("person 1;caught 10;wish 0 lie 1;", 1, 1);
        detersIs("person 1;caught 10;wish 0 lie 2;", 2, 1);
        detersIs("person 1;caught 10;wish 0 lie 9;", 9, 8);
        detersIs("person 1;caught 10;wish 0 lie 10;", NONE, 9);
        detersIs("person 1;caught 1;wish 0 lie 99;", NONE, 9);
        check.sentence("Terms", "BEST: the FINE, 1 to 9, of the most TAKEN, of several the least.");
        detersIs("person 1;person 1;caught 10;wish 0 lie 2;wish 1 lie 3;", 3, 1);
        detersIs("person 1;person 1;caught 10;wish 0 lie 2;wish 1 lie 4;", 4, 3);
        detersIs("person 1;person 1;person 1;caught 10;wish 0 lie 3;wish 1 lie 3;wish 2 lie 5;", 5, 2);
        detersIs("person 1;person 1;person 1;caught 10;wish 0 lie 3;wish 1 lie 3;wish 2 lie 7;", 7, 2);
        detersIs("person 1;person 1;person 1;caught 10;wish 0 lie 3;wish 1 lie 3;wish 2 lie 8;", 8, 7);
    }

    private static void daresOfWhat() {
        check.sentence("Promise 13", "Of an OFFENCE, a FINE f, 1 .. 9, what 0: DARES (bits), 1: HARM, 2: TAKEN");
        HeightFine ends = with("person 1;person 1;caught 10;wish 1 lie 99;");
        for (int f = 0; f <= 10; f++) {
            boolean is = f >= 1 && f <= 9;
            check.due("DARES, f " + f, ends.dares(0, 1, f, 0), is ? 2 : NO_SUCH);
            check.due("HARM, f " + f, ends.dares(0, 1, f, 1), is ? 99 : NO_SUCH);
            check.due("TAKEN, f " + f, ends.dares(0, 1, f, 2), is ? 10 * f : NO_SUCH);
        }
        check.sentence("Promise 13", "-2: there is none such (of either), another f, or for another what.");
        HeightFine x = with("person 1;caught 10;wish 0 lie 9;");
        for (int what = 0; what <= 4; what++) {
            int asked = what;
            check.dueToEach("OFFENCE, what " + what, o -> x.dares(0, o, 1, asked), NO_SUCH, LEAST, -2, -1, 4, 5, GREATEST);
            if (what < 3) {
                check.dueToEach("f, what " + what, f -> x.dares(0, 1, f, asked), NO_SUCH, LEAST, -1, 0, 10, 11, GREATEST);
            }
            HeightFine y = new HeightFine();
            noSuchBorough(NO_SUCH, y, b -> y.dares(b, 0, 1, asked));
        }
        check.dueToEach("what", what -> x.dares(0, 1, 1, what), NO_SUCH, LEAST, -2, -1, 5, 6, GREATEST);
        check.dueToEach("what, another f", what -> x.dares(0, 1, 0, what), NO_SUCH, LEAST, -1, 0, 1, 2, 5, GREATEST);
        check.due("f 1", x.dares(0, 1, 1, 0), 1);
        check.due("f 8", x.dares(0, 1, 8, 0), 1);
        check.due("f 9", x.dares(0, 1, 9, 0), 0);
        check.due("OFFENCE 0", x.dares(0, 0, 1, 0), 0);
        check.due("OFFENCE 3", x.dares(0, 3, 1, 0), 0);
    }

    private static void shareIs(String text, int person, int n, int lost, int... due) {
        HeightFine x = with(text);
        String call = "share of " + person + ", " + n + " in '" + text + "', ";
        check.due(call + "lost", x.share(0, person, n, NONE), lost);
        for (int who = 0; who < due.length; who++) {
            check.due(call + "who " + who, x.share(0, person, n, who), due[who]);
        }
        check.due(call + "one more", x.share(0, person, n, due.length), NONE);
    }

    private static void shareJust() {
        check.sentence("Terms", "who has a PARENT loses half of what comes to him (cut), who has none all of it, but nobody more"
                + " than leaves him 1 inch");
        shareIs("person 1;", 0, 1, 1, 0);
        shareIs("person 1;", 0, 99, 99, 0);
        shareIs("person 99;", 0, 98, 0, 98);
        shareIs("person 99;", 0, 99, 1, 98);
        shareIs("person 10;", 0, 9, 0, 9);
        shareIs("person 10;", 0, 10, 1, 9);
        String two = "person 5;person 99;child 0 1;";
        shareIs(two, 0, 1, 0, 0, 1);
        shareIs(two, 0, 2, 0, 1, 1);
        shareIs(two, 0, 3, 0, 1, 2);
        shareIs(two, 0, 8, 0, 4, 4);
        shareIs(two, 0, 9, 0, 4, 5);
        shareIs(two, 0, 10, 0, 4, 6);
        shareIs(two, 0, 99, 0, 4, 95);
        shareIs(two, 1, 99, 1, 0, 98);
        shareIs("person 1;person 9;child 0 1;", 0, 8, 0, 0, 8);
        shareIs("person 1;person 9;child 0 1;", 0, 9, 1, 0, 8);
        shareIs("person 1;person 1;child 0 1;", 0, 99, 99, 0, 0);
    }

    private static void shareOfAChain() {
        check.sentence("Terms", "the rest comes to the PARENT, and so on; of one who has none it is lost: of each how much; how much is"
                + " lost.");
        String eight = Check.times(8, "person 99;") + CHAIN;
        shareIs(eight, 7, 99, 0, 1, 1, 2, 3, 6, 12, 25, 49);
        shareIs(eight, 7, 1, 0, 1, 0, 0, 0, 0, 0, 0, 0);
        shareIs(eight, 0, 98, 0, 98, 0, 0, 0, 0, 0, 0, 0);
        shareIs(eight, 0, 99, 1, 98, 0, 0, 0, 0, 0, 0, 0);
        shareIs(Check.times(8, "person 1;") + CHAIN, 7, 99, 99, 0, 0, 0, 0, 0, 0, 0, 0);
        shareIs(Check.times(8, "person 2;") + CHAIN, 7, 99, 91, 1, 1, 1, 1, 1, 1, 1, 1);
    }

    private static void shareOfWhat() {
        check.sentence("Promise 14", "SHARE of a PERSON's fine of n: what another one (or he) loses (who NONE: what is lost). NONE: there"
                + " is none such (of any), or another n.");
        for (int people = 0; people <= 8; people++) {
            HeightFine x = with(Check.times(people, "person 9;"));
            check.dueToEach("PERSON of " + people, p -> x.share(0, p, 5, NONE), NONE, LEAST, -2, -1, people, 8, GREATEST);
            check.dueToEach("who of " + people, who -> x.share(0, 0, 5, who), NONE, LEAST, -3, -2, people, 8, GREATEST);
            if (people > 0) {
                check.due("the last PERSON", x.share(0, people - 1, 5, people - 1), 5);
                check.due("another one than the last", x.share(0, people - 1, 5, 0), people == 1 ? 5 : 0);
            }
        }
        check.sentence("Terms", "SHARE of a PERSON's fine of n, 1 .. 99");
        HeightFine x = with("person 9;person 9;");
        check.dueToEach("n", n -> x.share(0, 0, n, 0), NONE, LEAST, -1, 0, 100, 101, GREATEST);
        check.dueToEach("n, lost", n -> x.share(0, 0, n, NONE), NONE, LEAST, -1, 0, 100, 101, GREATEST);
        check.due("n 1", x.share(0, 0, 1, 0), 1);
        check.due("n 99", x.share(0, 0, 99, NONE), 91);
        HeightFine y = new HeightFine();
        noSuchBorough(NONE, y, b -> y.share(b, 0, 5, 0));
    }

    private static void elderOfTwo() {
        check.sentence("Terms", "ELDER of two PEOPLE: the nearest forbear of both (one may be the other's, or be it himself; of whom steps up from both"
                + " together are fewest)");
        HeightFine chain = with(Check.times(8, "person 9;") + CHAIN);
        for (int a = 0; a < 8; a++) {
            for (int b = 0; b < 8; b++) {
                check.due("in a chain, " + a + " and " + b, chain.elder(0, a, b), Math.min(a, b));
            }
        }
        HeightFine tree = with(Check.times(8, "person 9;") + "child 1 0;child 2 0;child 3 1;child 4 1;child 5 2;child 6 2;");
        int[][] due = {{3, 4, 1}, {3, 5, 0}, {5, 6, 2}, {3, 2, 0}, {4, 1, 1}, {6, 0, 0}, {3, 3, 3}, {0, 0, 0}, {7, 7, 7},
            {7, 0, NONE}, {3, 7, NONE}, {7, 6, NONE}};
        for (int[] one : due) {
            check.due("in a tree, " + one[0] + " and " + one[1], tree.elder(0, one[0], one[1]), one[2]);
            check.due("in a tree, " + one[1] + " and " + one[0], tree.elder(0, one[1], one[0]), one[2]);
        }
    }

    private static void elderOfNone() {
        check.sentence("Promise 15", "ELDER of two PEOPLE. NONE: there is none, or none such (of any).");
        for (int people = 0; people <= 8; people++) {
            HeightFine x = with(Check.times(people, "person 9;"));
            check.dueToEach("a of " + people, a -> x.elder(0, a, 0), NONE, LEAST, -2, -1, people, 8, GREATEST);
            check.dueToEach("b of " + people, b -> x.elder(0, 0, b), NONE, LEAST, -2, -1, people, 8, GREATEST);
            check.dueToEach("both of " + people, a -> x.elder(0, a, a), NONE, LEAST, -2, -1, people, 8, GREATEST);
            if (people > 1) {
                check.due("no forbear of both", x.elder(0, 0, people - 1), NONE);
                check.due("the last himself", x.elder(0, people - 1, people - 1), people - 1);
            }
        }
        HeightFine y = new HeightFine();
        noSuchBorough(NONE, y, b -> y.elder(b, 1, 1));
    }

    private static void familyIs(HeightFine x, int person, int who, int inches, int steps) {
        check.due("FAMILY of " + person, x.family(0, person, 0), who);
        check.due("FAMILY of " + person + ", INCHES", x.family(0, person, 1), inches);
        check.due("FAMILY of " + person + ", steps", x.family(0, person, 2), steps);
    }

    private static void familyOfOne() {
        check.sentence("Terms", "FAMILY of a PERSON: he and all whose forbear he is (bits); their INCHES together; how many steps up"
                + " it is to him from one of these at most.");
        familyIs(with("person 1;"), 0, 1, 1, 0);
        HeightFine chain = with(Check.times(8, "person 99;") + CHAIN);
        for (int p = 0; p < 8; p++) {
            familyIs(chain, p, 256 - (1 << p), 99 * (8 - p), 7 - p);
        }
        HeightFine star = with(Check.times(8, "person 9;") + "child 0 7;child 1 7;child 2 7;child 3 7;child 4 7;child 5 7;"
                + "child 6 7;");
        familyIs(star, 7, 255, 72, 1);
        familyIs(star, 0, 1, 9, 0);
        HeightFine bare = with(Check.times(8, "person 9;"));
        familyIs(bare, 7, 128, 9, 0);
    }

    private static void familyOfWhat() {
        check.sentence("Promise 21", "FAMILY of a PERSON, what 0: who (bits), 1: INCHES, 2: steps. NONE: there is none such (of either), or for another what.");
        for (int people = 0; people <= 8; people++) {
            HeightFine x = with(Check.times(people, "person 9;"));
            for (int what = 0; what < 3; what++) {
                int asked = what;
                check.dueToEach("PERSON of " + people, p -> x.family(0, p, asked), NONE, LEAST, -2, -1, people, 8, GREATEST);
            }
            check.dueToEach("what of " + people, what -> x.family(0, 0, what), NONE, LEAST, -2, -1, 3, 4, 10, GREATEST);
        }
        HeightFine y = new HeightFine();
        noSuchBorough(NONE, y, b -> y.family(b, 0, 0));
    }

    private static void viewsAre(String text, long... due) {
        HeightFine x = with(text);
        for (int k = -3; k <= 12; k++) {
            long want = k >= 0 && k < due.length ? due[k] : 0;
            check.due("views of " + k + " in '" + text + "'", x.views(0, k), want);
        }
        check.dueToEach("views", k -> x.views(0, k), 0, LEAST, LEAST + 1, -100, 100, GREATEST - 1, GREATEST);
    }

    private static void viewsOfAnyNumber() {
        check.sentence("Promise 22", "VIEWS of k, any number. NONE: there is none such.");
        viewsAre("", 1);
        viewsAre("person 9;", 0, 1);
        check.sentence("Terms", "VIEWS of k: in how many orders of all PEOPLE, one behind the other, just k are taller than everybody"
                + " ahead (the first one is).");
        viewsAre("person 9;person 9;", 0, 2);
        viewsAre("person 9;person 10;", 0, 1, 1);
        viewsAre(Check.times(8, "person 9;"), 0, 40320);
        viewsAre("person 1;person 2;person 3;person 4;person 5;person 6;person 7;person 8;",
                0, 5040, 13068, 13132, 6769, 1960, 322, 28, 1);
        viewsAre(Check.times(7, "person 1;") + "person 2;", 0, 5040, 35280);
        viewsAre(Check.times(7, "person 2;") + "person 1;", 0, 35280, 5040);
        check.sentence("Promise 22", "NONE: there is none such.");
        HeightFine x = new HeightFine();
        noSuchBorough(NONE, x, b -> x.views(b, 0));
        HeightFine y = new HeightFine();
        noSuchBorough(NONE, y, b -> y.views(b, -1));
    }

    private static void shouldersIs(String text, int n, int due) {
        check.due("shoulders of " + n + " in '" + text + "'", with(text).shoulders(0, n), due);
    }

    private static void shouldersJust() {
        check.sentence("Promise 23", "SHOULDERS of n (bits). NONE: by none, or there is none such.");
        for (String text : new String[] {"", "person 9;", Check.times(8, "person 99;")}) {
            for (int n : new int[] {LEAST, -1, 0}) {
                shouldersIs(text, n, 0);
            }
        }
        shouldersIs("", 1, NONE);
        shouldersIs("", GREATEST, NONE);
        shouldersIs("person 9;", 1, 1);
        shouldersIs("person 9;", 9, 1);
        shouldersIs("person 9;", 10, NONE);
        String eight = Check.times(8, "person 99;");
        shouldersIs(eight, 99, 1);
        shouldersIs(eight, 100, 3);
        shouldersIs(eight, 693, 127);
        shouldersIs(eight, 694, 255);
        shouldersIs(eight, 792, 255);
        shouldersIs(eight, 793, NONE);
        shouldersIs(eight, GREATEST, NONE);
        check.sentence("Terms", "SHOULDERS of n: the fewest PEOPLE (bits; of several the least) whose INCHES together are n or more.");
        shouldersIs("person 4;person 5;person 9;", 9, 4);
        shouldersIs("person 9;person 5;person 9;", 9, 1);
        shouldersIs("person 8;person 9;person 10;", 9, 2);
        shouldersIs("person 8;person 9;person 10;", 17, 3);
        shouldersIs("person 8;person 9;person 10;", 18, 5);
        shouldersIs("person 8;person 9;person 10;", 19, 6);
        shouldersIs("person 8;person 9;person 10;", 20, 7);
        HeightFine x = new HeightFine();
        noSuchBorough(NONE, x, b -> x.shoulders(b, 0));
    }

    private static void hatsAre(String text, int inches, int highest) {
        check.due("hats in '" + text + "'", with(text).hats(0, false), inches);
        check.due("the highest in '" + text + "'", with(text).hats(0, true), highest);
    }

    private static void hatsOfLikeOnes() {
        check.sentence("Promise 24", "HATS, or (highest) the highest (0 without PEOPLE). NONE: there is none such.");
        hatsAre("", 0, 0);
        hatsAre("person 1;", 0, 1);
        hatsAre("person 99;", 0, 99);
        check.sentence("Terms", "HATS: the fewest inches of hats by which no two PEOPLE are of like height, hat and all; the highest"
                + " then.");
        hatsAre("person 99;person 98;", 0, 99);
        hatsAre("person 99;person 99;", 1, 100);
        hatsAre("person 98;person 99;person 98;", 2, 100);
        hatsAre(Check.times(8, "person 99;"), 28, 106);
        hatsAre(Check.times(8, "person 1;"), 28, 8);
        hatsAre(Check.times(7, "person 1;") + "person 8;", 21, 8);
        hatsAre(Check.times(7, "person 1;") + "person 7;", 22, 8);
        for (boolean highest : new boolean[] {false, true}) {
            HeightFine x = new HeightFine();
            noSuchBorough(NONE, x, b -> x.hats(b, highest));
        }
    }

    private static void teamsAre(String text, int difference, int team) {
        check.due("teams of '" + text + "'", with(text).teams(0, false), difference);
        check.due("the team of 0 in '" + text + "'", with(text).teams(0, true), team);
    }

    private static void teamsOfTwo() {
        check.sentence("Promise 25", "TEAMS: the difference, or (bits) the team. NONE: fewer than two PEOPLE, or there is none such.");
        teamsAre("", NONE, NONE);
        teamsAre("person 9;", NONE, NONE);
        teamsAre("person 9;person 9;", 0, 1);
        teamsAre("person 1;person 99;", 98, 1);
        check.sentence("Terms", "TEAMS: all in two teams, of like numbers, or one more in either: the least difference of INCHES; the"
                + " team (bits) of PERSON 0, of several the least.");
        teamsAre("person 9;person 9;person 9;", 9, 1);
        teamsAre("person 9;person 4;person 5;", 0, 1);
        teamsAre("person 4;person 9;person 5;", 0, 5);
        teamsAre("person 10;person 1;person 1;person 1;", 9, 3);
        teamsAre(Check.times(8, "person 99;"), 0, 15);
        teamsAre(Check.times(7, "person 99;"), 99, 7);
        teamsAre("person 1;person 1;person 1;person 1;person 99;person 99;person 99;person 99;", 0, 51);
        for (boolean bits : new boolean[] {false, true}) {
            HeightFine x = new HeightFine();
            noSuchBorough(NONE, x, b -> x.teams(b, bits));
        }
    }

    private static void assumedIs(String text, int h, int wrong, int above, int below) {
        HeightFine x = with(text);
        String call = "assumed of " + h + " in '" + text + "', ";
        check.due(call + "wrong", x.assumed(0, h, 0), wrong);
        check.due(call + "N", x.assumed(0, h, 1), above);
        check.due(call + "D", x.assumed(0, h, 2), below);
    }

    private static void assumedJust() {
        check.sentence("Terms", "ASSUMED of h, 0 .. 99: that just those of h INCHES or less are POOR: of how many it is wrong");
        for (int inches : new int[] {1, 50, 98, 99}) {
            assumedIs(person(inches) + "poor 0;", inches - 1, 1, 0, 1);
            assumedIs(person(inches) + "poor 0;", inches, 0, 1, 1);
            assumedIs(person(inches), inches - 1, 0, 0, 1);
            assumedIs(person(inches), inches, 1, 0, 1);
        }
        String eight = Check.times(8, "person 50;");
        String poor = "poor 0;poor 1;poor 2;poor 3;poor 4;poor 5;poor 6;poor 7;";
        int[] above = {0, 1, 1, 3, 1, 5, 3, 7, 1};
        int[] below = {1, 8, 4, 8, 2, 8, 4, 8, 1};
        for (int many = 0; many <= 8; many++) {
            assumedIs(eight + poor.substring(0, 7 * many), 50, 8 - many, above[many], below[many]);
            assumedIs(eight + poor.substring(0, 7 * many), 49, many, 0, 1);
        }
    }

    private static void assumedNoneSoLow() {
        check.sentence("Terms", "which part of these h or less is POOR, a fraction in least terms (0 by 1, if there is none so low)");
        assumedIs("", 0, 0, 0, 1);
        assumedIs("", 99, 0, 0, 1);
        assumedIs("person 1;poor 0;", 0, 1, 0, 1);
        assumedIs("person 1;person 1;person 1;", 1, 3, 0, 1);
        assumedIs("person 1;person 1;person 1;poor 2;", 1, 2, 1, 3);
    }

    private static void wisestIs(String text, int due) {
        HeightFine x = with(text);
        check.dueToEach("WISEST in '" + text + "', h", h -> x.assumed(0, h, 3), due, LEAST, -1, 0, 50, 99, 100, GREATEST);
    }

    private static void assumedWisest() {
        check.sentence("Promise 26", "3: WISEST (whatever h is).");
        wisestIs("", 0);
        wisestIs("person 1;", 0);
        wisestIs("person 1;poor 0;", 1);
        wisestIs("person 99;poor 0;", 99);
        wisestIs("person 99;", 0);
        check.sentence("Terms", "WISEST: the h of which it is wrong of the fewest, of several the least.");
        wisestIs("person 5;person 9;poor 0;", 5);
        wisestIs("person 5;person 9;poor 1;", 0);
        wisestIs("person 5;person 9;poor 0;poor 1;", 9);
        wisestIs("person 5;person 9;person 9;poor 1;poor 2;", 9);
    }

    private static void assumedOfWhat() {
        check.sentence("Promise 26", "ASSUMED of h, what 0: of how many it is wrong, 1, 2: the part, N, D, 3: WISEST (whatever h is). NONE:"
                + " there is none such, another h, or for another what.");
        HeightFine x = with("person 5;poor 0;");
        for (int what = 0; what < 3; what++) {
            int asked = what;
            check.dueToEach("h, what " + what, h -> x.assumed(0, h, asked), NONE, NOT_TO_NINETY_NINE);
            check.due("h 0, what " + what, x.assumed(0, 0, what), what == 1 ? 0 : 1);
            check.due("h 99, what " + what, x.assumed(0, 99, what), what == 0 ? 0 : 1);
        }
        check.dueToEach("what", what -> x.assumed(0, 5, what), NONE, LEAST, -2, -1, 4, 5, GREATEST);
        check.dueToEach("what, another h", what -> x.assumed(0, 100, what), NONE, LEAST, -1, 0, 1, 2, 4, GREATEST);
        for (int what = 0; what < 4; what++) {
            int asked = what;
            HeightFine y = new HeightFine();
            noSuchBorough(NONE, y, b -> y.assumed(b, 5, asked));
        }
    }

    /** Two BOROUGHS and a YEAR, of which each is asked of between two answers of the other. */
    private static HeightFine withTwo() {
        HeightFine x = with(Check.BOROUGH);
        Check.tell(x, 1, NONE, Check.YEAR);
        Check.tell(x, 0, NONE, Check.times(8, "person 99;") + Check.times(6, "door 98;work 99;")
                + "pass 0 0;pass 1 0;pass 2 1;pass 3 2;pass 4 3;pass 5 4;pass 6 5;poor 0;");
        return x;
    }

    private static void asToldWorksAndDoors() {
        check.sentence("Terms", "(Of a BOROUGH as told.) REACHED of n");
        HeightFine x = withTwo();
        for (int round = 0; round < 2; round++) {
            check.due("reached", x.reached(0, 8, 12), 0);
            check.due("reached, inches", x.reached(0, 8, 1), 8);
            check.due("cut", x.cut(0, 9, 0), 4);
            check.due("cut, DOOR 0", x.cut(0, 9, 10), 5);
            check.due("love", x.love(0, 5, false), 2);
            check.due("even", x.love(0, 2, true), 9);
            check.due("dares", x.dares(0, 0, 1, 0), 11);
            check.due("share", x.share(0, 3, 99, NONE), 74);
            check.due("a STATE", x.state(0, 0, 9, 12), 14);
            check.due("the other: reached", x.reached(1, 99, 10), 0);
            check.due("the other: cut", x.cut(1, 99, 0), 7);
            check.due("the other: love", x.love(1, 0, false), 4);
            check.due("the other: even", x.love(1, 99, true), 0);
            check.due("the other: share", x.share(1, 7, 99, NONE), 1);
        }
    }

    private static void asToldPeople() {
        check.sentence("Terms", "(Of a BOROUGH as told.) FAMILY of a PERSON");
        HeightFine x = withTwo();
        for (int round = 0; round < 2; round++) {
            check.due("family", x.family(0, 1, 1), 48);
            check.due("views", x.views(0, 2), 11);
            check.due("shoulders", x.shoulders(0, 36), 7);
            check.due("hats", x.hats(0, true), 20);
            check.due("teams", x.teams(0, true), 9);
            check.due("assumed", x.assumed(0, 4, 0), 1);
            check.due("a STATE", x.state(0, 0, 9, 12), 14);
            check.due("the other: family", x.family(1, 7, 1), 99);
            check.due("the other: views", x.views(1, 1), 40320);
            check.due("the other: shoulders", x.shoulders(1, 400), 31);
            check.due("the other: hats", x.hats(1, true), 106);
            check.due("the other: teams", x.teams(1, true), 15);
            check.due("the other: assumed", x.assumed(1, 99, 0), 7);
        }
    }
}
