/**
 * The document's boundary cases, sentence by sentence: terms 2 and 5, promises 8, 9, 20 and 27: which
 * DEEDS can be, where a YEAR stops, its STATES, years by a seed, how all is settled.
 */
public final class YearEdgesTest {
    private static final int NONE = HeightFine.NONE;
    private static final int NO_SUCH = -2;
    private static final int LEAST = Integer.MIN_VALUE;
    private static final int GREATEST = Integer.MAX_VALUE;
    private static final String[] OFFENCES = Lines.OFFENCES;
    private static final String TWO = "person 20;person 20;";
    private static final Check check = new Check();

    public static void main(String[] args) {
        aYearBegins();
        fines();
        bails();
        gives();
        onlyThePoorAreGiven();
        stretches();
        gifts();
        nobodyIsAboveNinetyNine();
        noSuchPerson();
        noSuchParent();
        aDeedThatCanNotBeChangesNothing();
        stop();
        stopOfNone();
        statesUpToStop();
        statesOfWhat();
        statesOfNone();
        ranks();
        bowedAndRaised();
        up();
        drawnTimes();
        drawnOfWhat();
        drawnByAnySeed();
        drawnEachKind();
        drawnAlone();
        settled();
        settledByNone();
        settledOfNone();
        check.finish();
    }

    private static HeightFine withYear(String borough, String year) {
        HeightFine x = Check.withBorough(borough);
        check.due("the YEAR '" + year + "'", Check.tell(x, 1, NONE, year), 0);
        return x;
    }

    private static void stops(String borough, String year, int stop) {
        check.due("stop of '" + year + "' in '" + borough + "'", withYear(borough, year).stop(0, 0), stop);
    }

    /** The PRESS and the inches of all behind the first n DEEDS. */
    private static void stateIs(HeightFine x, int n, int press, int... inches) {
        check.due("the PRESS behind " + n, x.state(0, 0, n, 0), press);
        for (int p = 0; p < inches.length; p++) {
            check.due("inches of " + p + " behind " + n, x.state(0, 0, n, 10 + p), inches[p]);
        }
        check.due("one more PERSON behind " + n, x.state(0, 0, n, 10 + inches.length), NO_SUCH);
    }

    private static void aYearBegins() {
        check.sentence("Terms", "A YEAR of a BOROUGH begins with all as told, nothing in the PRESS.");
        HeightFine x = withYear("person 99;person 1;person 50;person 50;person 2;person 98;person 9;person 10;",
                "fine 0 theft;gift 2 1 9;");
        for (int again = 0; again < 2; again++) {
            stateIs(x, 0, 0, 99, 1, 50, 50, 2, 98, 9, 10);
            check.due("BOWED at first", x.state(0, 0, 0, 1), 0);
            check.due("RAISED at first", x.state(0, 0, 0, 2), 0);
            stateIs(x, 2, 6, 93, 10, 41, 50, 2, 98, 9, 10);
            check.due("stop", x.stop(0, 0), 2);
        }
    }

    private static void fines() {
        check.sentence("Terms", "fine: a PERSON loses the OFFENCE's FINE: it comes to the PRESS; it can't be, if he would be below"
                + " 1 inch.");
        for (int o = 0; o < 4; o++) {
            for (int f = 1; f <= 9; f++) {
                String costs = "costs " + OFFENCES[o] + " " + f + ";";
                String year = "fine 0 " + OFFENCES[o] + ";";
                stops("person " + f + ";" + costs, year, 0);
                stops("person " + (f + 1) + ";" + costs, year, 1);
                HeightFine x = withYear("person " + (f + 1) + ";" + costs, year + year);
                check.due("once, not twice", x.stop(0, 0), 1);
                stateIs(x, 1, f, 1);
            }
        }
        stops("person 1;", "fine 0 speed;", 0);
        stops("person 99;", Check.times(16, "fine 0 theft;") + "fine 0 lie;", 16);
        stops("person 99;", Check.times(16, "fine 0 theft;") + "fine 0 insult;", 17);
    }

    private static void bails() {
        check.sentence("Terms", "bail: his PARENT loses half of it (upwards), he the rest; likewise neither below 1.");
        for (int f = 1; f <= 9; f++) {
            int half = f / 2 + f % 2;
            int rest = f - half;
            String told = ";child 0 1;costs lie " + f + ";";
            HeightFine x = withYear("person " + (rest + 1) + ";person " + (half + 1) + told, "bail 0 lie;");
            check.due("stop by " + f, x.stop(0, 0), 1);
            stateIs(x, 1, f, 1, 1);
            stops("person " + (rest + 1) + ";person " + half + told, "bail 0 lie;", 0);
            stops("person 99;person " + half + told, "bail 0 lie;", 0);
            if (rest > 0) {
                stops("person " + rest + ";person " + (half + 1) + told, "bail 0 lie;", 0);
                stops("person " + rest + ";person 99" + told, "bail 0 lie;", 0);
            }
        }
        stops("person 1;person 2;child 0 1;", "bail 0 speed;", 1);
        stops("person 1;person 99;child 0 1;", "bail 0 insult;", 0);
    }

    private static void gives() {
        check.sentence("Terms", "give: a POOR one gets so many inches from the PRESS, if there are so many in it.");
        stops("person 9;poor 0;", "give 0 1;", 0);
        for (int n = 1; n <= 9; n++) {
            String borough = "person 20;person 1;poor 1;costs lie " + n + ";";
            HeightFine x = withYear(borough, "fine 0 lie;give 1 " + n + ";give 1 1;");
            check.due("as many as are in it", x.stop(0, 0), 2);
            stateIs(x, 2, 0, 20 - n, 1 + n);
            stops(borough, "fine 0 lie;give 1 " + (n + 1) + ";", 1);
            stops(borough, "fine 0 lie;give 1 99;", 1);
        }
        HeightFine x = withYear("person 99;person 1;poor 1;costs theft 9;",
                Check.times(10, "fine 0 theft;") + "fine 0 theft;give 1 98;");
        check.due("11 fines of 9 are one too many", x.stop(0, 0), 10);
        HeightFine y = withYear("person 99;person 1;person 20;poor 1;costs theft 9;",
                Check.times(10, "fine 0 theft;") + "fine 2 theft;give 1 98;");
        check.due("98 of 99 inches", y.stop(0, 0), 12);
        stateIs(y, 12, 1, 9, 99, 11);
        StringBuilder most = new StringBuilder();
        for (int k = 0; k < 40; k++) {
            most.append("fine ").append(k % 8).append(" theft;");
        }
        HeightFine full = withYear(Check.times(8, "person 99;") + "costs theft 9;", most.toString());
        check.due("forty fines of 9", full.stop(0, 0), 40);
        stateIs(full, 40, 360, 54, 54, 54, 54, 54, 54, 54, 54);
    }

    private static void onlyThePoorAreGiven() {
        check.sentence("Terms", "give: a POOR one gets so many inches from the PRESS");
        for (int p = 0; p < 8; p++) {
            for (int poor = 0; poor < 8; poor++) {
                stops(Check.times(8, "person 20;") + "poor " + poor + ";", "fine 0 lie;give " + p + " 3;", p == poor ? 2 : 1);
            }
        }
        stops(TWO, "fine 0 lie;give 0 3;", 1);
        HeightFine x = withYear(TWO + "poor 0;", "fine 0 lie;give 0 3;");
        stateIs(x, 2, 0, 20, 20);
    }

    private static void stretches() {
        check.sentence("Terms", "stretch: a PERSON gets so many inches of nobody, but no more than bring him to his first"
                + " INCHES (none, if he has these or more).");
        int[] inches = {1, 5, 6, 7, 99};
        int[] then = {15, 19, 20, 20, 20};
        for (int k = 0; k < inches.length; k++) {
            HeightFine x = withYear(TWO, "fine 0 theft;stretch 0 " + inches[k] + ";");
            check.due("stop", x.stop(0, 0), 2);
            stateIs(x, 1, 6, 14, 20);
            stateIs(x, 2, 6, then[k], 20);
        }
        HeightFine has = withYear(TWO, "stretch 0 1;stretch 0 99;");
        check.due("he has these: it can be", has.stop(0, 0), 2);
        stateIs(has, 2, 0, 20, 20);
        HeightFine more = withYear(TWO, "gift 1 0 1;stretch 0 99;gift 0 1 2;stretch 0 99;");
        check.due("he has more: it can be", more.stop(0, 0), 4);
        stateIs(more, 2, 0, 21, 19);
        stateIs(more, 3, 0, 19, 21);
        stateIs(more, 4, 0, 20, 21);
        stateIs(withYear("person 99;", "fine 0 speed;stretch 0 99;stretch 0 99;"), 3, 1, 99);
        stateIs(withYear("person 1;", "stretch 0 99;"), 1, 0, 1);
    }

    private static void gifts() {
        check.sentence("Terms", "gift: a PERSON gives another one so many inches, 1 being left to him at least.");
        for (int n = 1; n <= 90; n++) {
            HeightFine x = withYear("person " + (n + 1) + ";person 9;", "gift 0 1 " + n + ";");
            check.due("1 is left", x.stop(0, 0), 1);
            stateIs(x, 1, 0, 1, 9 + n);
            stops("person " + n + ";person 9;", "gift 0 1 " + n + ";", 0);
        }
        stops("person 1;person 9;", "gift 0 1 1;", 0);
        stops("person 9;person 1;", "gift 0 1 99;", 0);
    }

    private static void nobodyIsAboveNinetyNine() {
        check.sentence("Terms", "Nobody can be above 99.");
        for (int n = 1; n <= 9; n++) {
            int room = 99 - n;
            stops("person 20;person " + room + ";", "gift 0 1 " + n + ";", 1);
            stops("person 20;person " + (room + 1) + ";", "gift 0 1 " + n + ";", 0);
            String costs = "poor 1;costs lie " + n + ";";
            String year = "fine 0 lie;give 1 " + n + ";";
            stops("person 20;person " + room + ";" + costs, year, 2);
            stops("person 20;person " + (room + 1) + ";" + costs, year, 1);
        }
        stateIs(withYear("person 2;person 98;", "gift 0 1 1;"), 1, 0, 1, 99);
        stops("person 99;person 1;", "gift 0 1 98;", 1);
        stops("person 99;person 2;", "gift 0 1 98;", 0);
        stops("person 2;person 99;poor 1;", "fine 0 speed;give 1 1;", 1);
        stops("person 2;person 99;poor 1;", "fine 1 speed;give 1 1;", 2);
    }

    private static void noSuchPerson() {
        check.sentence("Terms", "A DEED can't be, if there is no such PERSON, PARENT, or it is not as said.");
        for (int people = 0; people < 8; people++) {
            String there = Check.times(people, "person 20;");
            for (String kind : new String[] {"fine # lie;", "bail # lie;", "give # 1;", "stretch # 1;", "gift # 0 1;",
                "gift 0 # 1;"}) {
                if (people > 0 || !kind.contains("0")) {
                    stops(there, kind.replace("#", Integer.toString(people)), 0);
                    stops(there, kind.replace("#", "7"), 0);
                }
            }
            if (people > 1) {
                String last = Integer.toString(people - 1);
                String told = there + "poor " + last + ";child " + last + " 0;";
                stops(told, "fine # lie;bail # lie;give # 1;stretch # 1;gift # 0 1;gift 0 # 1;".replace("#", last), 6);
            }
        }
        stops("", "fine 0 lie;", 0);
    }

    private static void noSuchParent() {
        check.sentence("Terms", "A DEED can't be, if there is no such PERSON, PARENT, or it is not as said.");
        stops("person 99;", "bail 0 speed;", 0);
        stops("person 99;person 99;child 0 1;", "bail 1 speed;", 0);
        stops("person 99;person 99;child 0 1;", "bail 0 speed;", 1);
        stops("person 99;person 99;person 99;child 0 1;child 1 2;", "bail 0 lie;bail 1 lie;bail 2 lie;", 2);
        HeightFine x = withYear("person 99;person 99;person 99;child 0 1;child 1 2;", "bail 0 lie;bail 1 lie;");
        stateIs(x, 1, 3, 98, 97, 99);
        stateIs(x, 2, 6, 98, 96, 97);
    }

    private static void aDeedThatCanNotBeChangesNothing() {
        check.sentence("Terms", "STOP: the first DEED that can't be, else how many there are.");
        String[] refused = {"fine 0 theft;", "bail 1 theft;", "bail 0 theft;", "give 0 1;", "give 1 9;", "gift 0 1 6;",
            "gift 0 2 1;", "stretch 2 1;"};
        for (String deed : refused) {
            HeightFine x = withYear("person 6;person 98;child 1 0;poor 1;", "fine 1 speed;" + deed + "fine 1 speed;");
            check.due("stop at '" + deed + "'", x.stop(0, 0), deed.equals("bail 1 theft;") ? 3 : 1);
            stateIs(x, 1, 1, 6, 97);
        }
    }

    private static void stop() {
        check.sentence("Promise 8", "STOP.");
        stops("", "", 0);
        stops(TWO, "", 0);
        stops(TWO, Check.times(40, "stretch 0 1;"), 40);
        stops(TWO, Check.times(39, "stretch 0 1;") + "give 0 1;", 39);
        stops(TWO, Check.times(20, "stretch 0 1;") + "give 0 1;" + Check.times(19, "stretch 0 1;"), 20);
        stops(TWO, "give 0 1;" + Check.times(39, "stretch 0 1;"), 0);
        stops("person 41;", Check.times(40, "fine 0 speed;"), 40);
        stops("person 40;", Check.times(40, "fine 0 speed;"), 39);
    }

    private static void stopOfNone() {
        check.sentence("Promise 8", "NONE: there is none such (of either).");
        HeightFine x = new HeightFine();
        check.due("neither", x.stop(0, 0), NONE);
        x.text(0, NONE);
        check.due("no YEAR", x.stop(0, 0), NONE);
        x.text(1, NONE);
        check.due("both", x.stop(0, 0), 0);
        check.dueToEach("BOROUGH", b -> x.stop(b, 0), NONE, LEAST, -2, -1, 1, 2, GREATEST);
        check.dueToEach("YEAR", y -> x.stop(0, y), NONE, LEAST, -2, -1, 1, 2, GREATEST);
        x.text(0, NONE);
        Check.tell(x, 1, NONE, "fine 0 lie;stretch 0 1;");
        Check.tell(x, 0, 1, "person 20;");
        check.due("the second of both", x.stop(1, 1), 2);
        check.due("the first and the second", x.stop(0, 1), 0);
        check.due("the second and the first", x.stop(1, 0), 0);
        check.dueToEach("BOROUGH", b -> x.stop(b, 1), NONE, LEAST, -1, 2, 3, GREATEST);
        check.dueToEach("YEAR", y -> x.stop(1, y), NONE, LEAST, -1, 2, 3, GREATEST);
        HeightFine noBorough = new HeightFine();
        noBorough.text(1, NONE);
        check.due("no BOROUGH", noBorough.stop(0, 0), NONE);
    }

    private static void statesUpToStop() {
        check.sentence("Terms", "A STATE is behind the first n DEEDS, n up to STOP.");
        String[] years = {"", "give 0 1;", "stretch 0 1;give 0 1;stretch 0 1;", Check.times(40, "stretch 0 1;"),
            Check.times(39, "stretch 0 1;") + "give 0 1;"};
        int[] stops = {0, 0, 1, 40, 39};
        for (int k = 0; k < years.length; k++) {
            HeightFine x = withYear(TWO, years[k]);
            for (int n = 0; n <= stops[k]; n++) {
                check.due("behind " + n, x.state(0, 0, n, 10), 20);
                check.due("settled behind " + n, x.settled(0, 0, n), 0);
            }
            int[] none = {LEAST, -2, -1, stops[k] + 1, stops[k] + 2, 41, GREATEST};
            check.dueToEach("state behind", n -> x.state(0, 0, n, 10), NO_SUCH, none);
            check.dueToEach("settled behind", n -> x.settled(0, 0, n), NONE, none);
        }
    }

    private static void statesOfWhat() {
        check.sentence("Promise 9", "Of a STATE, what 0: PRESS, 1: BOWED (bits), 2: RAISED (bits), 3: UP, 10 + p: inches of a PERSON,"
                + " 20 + k: the k-th by RANK. -2: there is no such STATE, or for another what.");
        for (int people = 0; people <= 8; people++) {
            HeightFine x = withYear(Check.times(people, "person 20;"), "");
            for (int what = -30; what <= 40; what++) {
                boolean total = what >= 0 && what <= 3;
                boolean inches = what >= 10 && what < 10 + people;
                boolean rank = what >= 20 && what < 20 + people;
                int due = total ? 0 : inches ? 20 : rank ? what - 20 : NO_SUCH;
                check.due("state of " + people + ", what " + what, x.state(0, 0, 0, what), due);
                check.due("drawn of " + people + ", what " + what, x.drawn(0, 1, 0, what), people == 0 ? NO_SUCH : due);
            }
            check.dueToEach("state, what", what -> x.state(0, 0, 0, what), NO_SUCH, LEAST, LEAST + 10, LEAST + 20,
                    GREATEST - 10, GREATEST);
        }
    }

    private static void statesOfNone() {
        check.sentence("Promise 9", "-2: there is no such STATE, or for another what.");
        HeightFine x = new HeightFine();
        check.due("neither", x.state(0, 0, 0, 0), NO_SUCH);
        x.text(0, NONE);
        check.due("no YEAR", x.state(0, 0, 0, 0), NO_SUCH);
        x.text(1, NONE);
        check.due("both", x.state(0, 0, 0, 0), 0);
        check.dueToEach("BOROUGH", b -> x.state(b, 0, 0, 0), NO_SUCH, LEAST, -2, -1, 1, 2, GREATEST);
        check.dueToEach("YEAR", y -> x.state(0, y, 0, 0), NO_SUCH, LEAST, -2, -1, 1, 2, GREATEST);
        HeightFine noBorough = new HeightFine();
        noBorough.text(1, NONE);
        check.due("no BOROUGH", noBorough.state(0, 0, 0, 0), NO_SUCH);
    }

    private static void ranks() {
        check.sentence("Terms", "RANK: PEOPLE by inches, the tallest first (of like ones by numbers).");
        HeightFine like = withYear(Check.times(8, "person 20;"), "gift 6 5 1;");
        int[] then = {5, 0, 1, 2, 3, 4, 7, 6};
        for (int k = 0; k < 8; k++) {
            check.due("all alike, " + k, like.state(0, 0, 0, 20 + k), k);
            check.due("all but two alike, " + k, like.state(0, 0, 1, 20 + k), then[k]);
        }
        HeightFine rising = withYear("person 1;person 2;person 3;person 4;person 5;person 6;person 7;person 99;", "");
        for (int k = 0; k < 8; k++) {
            check.due("rising, " + k, rising.state(0, 0, 0, 20 + k), 7 - k);
        }
        check.due("one alone", withYear("person 1;", "").state(0, 0, 0, 20), 0);
        check.due("no PEOPLE", withYear("", "").state(0, 0, 0, 20), NO_SUCH);
    }

    private static void bowedAndRaised() {
        check.sentence("Terms", "BOWED: PEOPLE (bits) who are less tall than at first; RAISED: taller.");
        HeightFine x = withYear(Check.times(8, "person 20;"), "gift 7 0 1;gift 0 7 1;gift 0 7 1;fine 3 speed;stretch 3 1;");
        int[] bowed = {0, 128, 0, 1, 9, 1};
        int[] raised = {0, 1, 0, 128, 128, 128};
        for (int n = 0; n < bowed.length; n++) {
            check.due("BOWED behind " + n, x.state(0, 0, n, 1), bowed[n]);
            check.due("RAISED behind " + n, x.state(0, 0, n, 2), raised[n]);
        }
        HeightFine all = withYear(Check.times(8, "person 20;"), "fine 0 speed;fine 1 speed;fine 2 speed;fine 3 speed;"
                + "fine 4 speed;fine 5 speed;fine 6 speed;fine 7 speed;");
        check.due("all are BOWED", all.state(0, 0, 8, 1), 255);
        check.due("none is RAISED", all.state(0, 0, 8, 2), 0);
    }

    private static void up() {
        check.sentence("Terms", "UP: how many couples of a POOR and another one there are, of whom the POOR one is taller.");
        HeightFine x = withYear("person 20;person 20;poor 1;", "gift 0 1 1;gift 1 0 2;");
        int[] due = {0, 1, 0};
        for (int n = 0; n < due.length; n++) {
            check.due("UP behind " + n, x.state(0, 0, n, 3), due[n]);
        }
        check.due("no POOR", withYear("person 9;person 1;", "").state(0, 0, 0, 3), 0);
        check.due("no PEOPLE", withYear("", "").state(0, 0, 0, 3), 0);
        check.due("four by four", withYear(Check.times(4, "person 9;person 8;") + "poor 0;poor 2;poor 4;poor 6;", "")
                .state(0, 0, 0, 3), 16);
        check.due("four by four, the lower", withYear(Check.times(4, "person 8;person 9;") + "poor 0;poor 2;poor 4;poor 6;",
                "").state(0, 0, 0, 3), 0);
    }

    private static void drawnTimes() {
        check.sentence("Terms", "n times, 0 to 60");
        HeightFine x = Check.withBorough("person 50;person 40;person 30;child 0 1;child 2 1;poor 1;poor 2;");
        check.due("0 times, the PRESS", x.drawn(0, 5, 0, 0), 0);
        check.due("0 times, inches", x.drawn(0, 5, 0, 10), 50);
        check.due("60 times", x.drawn(0, 5, 60, 0) >= 0, true);
        check.sentence("Promise 20", "-2: there are no PEOPLE, there is none such, another n, or for another what.");
        check.dueToEach("drawn, n", n -> x.drawn(0, 5, n, 0), NO_SUCH, LEAST, -2, -1, 61, 62, GREATEST);
        check.dueToEach("drawn, BOROUGH", b -> x.drawn(b, 5, 3, 0), NO_SUCH, LEAST, -2, -1, 1, 2, GREATEST);
        check.due("no BOROUGH", new HeightFine().drawn(0, 5, 0, 0), NO_SUCH);
        HeightFine empty = Check.withBorough("door 5;work 5;");
        check.dueToEach("no PEOPLE, n", n -> empty.drawn(0, 5, n, 0), NO_SUCH, 0, 1, 60);
        check.dueToEach("no PEOPLE, what", what -> empty.drawn(0, 5, 0, what), NO_SUCH, 1, 2, 3, 10, 20);
        x.text(0, NONE);
        check.due("the first, no YEAR being told", x.drawn(0, 5, 0, 10), 50);
        check.dueToEach("the second, which has no PEOPLE", what -> x.drawn(1, 5, 0, what), NO_SUCH, 0, 1, 2, 3, 10, 20);
    }

    private static void drawnOfWhat() {
        check.sentence("Promise 20", "DRAWN, n times, what as state().");
        HeightFine x = Check.withBorough("person 50;person 40;person 30;child 0 1;child 2 1;poor 1;poor 2;");
        check.dueToEach("drawn, what", what -> x.drawn(0, 5, 7, what), NO_SUCH, LEAST, LEAST + 10, -1, 4, 9, 13, 19, 23,
                28, 30, GREATEST);
    }

    /** DRAWN as the document says it, each x being a number of 32 bits within a long. */
    private static final class Drawn {
        private final int[] first;
        private final int[] parent;
        private final int poor;
        private final int[] fines = {6, 3, 1, 2};
        private final int[] tall;
        private long x;
        private int press;

        Drawn(int[] first, int[] parent, int poor, int seed) {
            this.first = first;
            this.parent = parent;
            this.poor = poor;
            tall = first.clone();
            x = seed & 0xffffffffL;
        }

        private int below(int n) {
            x = (x * 1103515245L + 12345L) % 4294967296L;
            return (int) (x / 65536 % n);
        }

        void once() {
            int p = below(first.length);
            int kind = below(8);
            if (kind < 4) {
                fine(p, fines[kind]);
            } else if (kind == 4) {
                bail(p, fines[below(4)]);
            } else if (kind == 5) {
                give(p, 1 + below(5));
            } else if (kind == 6) {
                stretch(p, 1 + below(5));
            } else {
                int to = below(first.length);
                gift(p, to, 1 + below(5));
            }
        }

        private void fine(int p, int fine) {
            if (tall[p] - fine >= 1) {
                tall[p] -= fine;
                press += fine;
            }
        }

        private void bail(int p, int fine) {
            int up = parent[p];
            if (up != NONE && tall[up] - (fine + 1) / 2 >= 1 && tall[p] - fine / 2 >= 1) {
                tall[up] -= (fine + 1) / 2;
                tall[p] -= fine / 2;
                press += fine;
            }
        }

        private void give(int p, int n) {
            if ((poor >> p & 1) != 0 && press >= n && tall[p] + n <= 99) {
                tall[p] += n;
                press -= n;
            }
        }

        private void stretch(int p, int n) {
            for (int k = 0; k < n && tall[p] < first[p]; k++) {
                tall[p]++;
            }
        }

        private void gift(int p, int to, int n) {
            if (p != to && tall[p] - n >= 1 && tall[to] + n <= 99) {
                tall[p] -= n;
                tall[to] += n;
            }
        }
    }

    private static void drawnAs(int seed, int poor, int[] first, int[] parent) {
        StringBuilder text = new StringBuilder();
        for (int inches : first) {
            text.append("person ").append(inches).append(';');
        }
        for (int p = 0; p < first.length; p++) {
            text.append(parent[p] == NONE ? "" : "child " + p + " " + parent[p] + ";");
            text.append((poor >> p & 1) == 0 ? "" : "poor " + p + ";");
        }
        HeightFine x = Check.withBorough(text.toString());
        Drawn due = new Drawn(first, parent, poor, seed);
        for (int n = 0; n <= 60; n++) {
            String call = "seed " + seed + " in " + text + ", " + n + " times, ";
            check.due(call + "the PRESS", x.drawn(0, seed, n, 0), due.press);
            for (int p = 0; p < first.length && p < 6; p++) {
                check.due(call + "inches of " + p, x.drawn(0, seed, n, 10 + p), due.tall[p]);
            }
            due.once();
        }
    }

    private static void drawnByAnySeed() {
        check.sentence("Terms", "DRAWN by a SEED, x; a number below n is drawn: x becomes x * 1103515245 + 12345 (of 32 bits), it is x shifted right by 16 without sign,"
                + " remainder by n");
        for (int seed : new int[] {0, 1, -1, LEAST, GREATEST, 65535, 65536, -65536, 20261118, -20261118}) {
            drawnAs(seed, 2, new int[] {50, 40, 30}, new int[] {1, NONE, 1});
            drawnAs(seed, 255, new int[] {99, 98, 97, 96, 99, 99, 99, 99}, new int[] {NONE, 0, 1, 2, 3, 4, 5, 6});
            drawnAs(seed, 21, new int[] {1, 2, 3, 4, 5}, new int[] {1, 2, 3, 4, NONE});
            drawnAs(seed, 0, new int[] {7, 9}, new int[] {NONE, NONE});
        }
    }

    /** Seeds enough that each kind is drawn first, of the first and of the last PERSON. */
    private static void drawnEachKind() {
        check.sentence("Terms", "a PERSON, a number below PEOPLE, a number below 8: 0 to 3: a fine for that OFFENCE; 4: bail, for an"
                + " OFFENCE, a number below 4; 5: give, 6: stretch, by 1 more than a number below 5; 7: gift, to a PERSON, a number"
                + " below PEOPLE, by 1 more than a number below 5; each, if it may");
        for (int seed = 0; seed < 400; seed++) {
            int[] first = {60, 50, 40};
            Drawn due = new Drawn(first, new int[] {2, 0, NONE}, 7, seed * 77777);
            HeightFine x = Check.withBorough("person 60;person 50;person 40;child 0 2;child 1 0;poor 0;poor 1;poor 2;");
            for (int n = 1; n <= 12; n++) {
                due.once();
                check.due("seed " + seed * 77777 + ", the PRESS behind " + n, x.drawn(0, seed * 77777, n, 0), due.press);
                for (int p = 0; p < 3; p++) {
                    check.due("seed " + seed * 77777 + ", inches", x.drawn(0, seed * 77777, n, 10 + p), due.tall[p]);
                }
            }
        }
    }

    private static void drawnAlone() {
        check.sentence("Terms", "each, if it may (a gift to himself may not).");
        for (int seed = -20; seed <= 20; seed++) {
            drawnAs(seed, 1, new int[] {30}, new int[] {NONE});
            drawnAs(seed, 0, new int[] {1}, new int[] {NONE});
        }
    }

    private static void settledIs(String borough, String year, int n, int due) {
        check.due("settled behind " + n + " of '" + year + "'", withYear(borough, year).settled(0, 0, n), due);
    }

    private static void settled() {
        check.sentence("Terms", "SETTLED in a STATE of a YEAR: the fewest gifts, each from one to another one, the PRESS being"
                + " one, too, of any inches, in any order, by which all, the PRESS, too, have what they had at first.");
        settledIs("", "", 0, 0);
        settledIs(TWO, "", 0, 0);
        settledIs(TWO, "fine 0 lie;", 1, 1);
        settledIs(TWO, "gift 0 1 5;gift 1 0 5;", 2, 0);
        settledIs(TWO, "stretch 0 5;", 1, 0);
        settledIs(TWO + "poor 0;", "fine 0 lie;give 0 3;", 2, 0);
        String eight = Check.times(8, "person 40;");
        String fined = "fine 0 lie;fine 1 lie;fine 2 lie;fine 3 lie;fine 4 lie;fine 5 lie;fine 6 lie;fine 7 lie;";
        settledIs(eight, fined, 8, 8);
        settledIs(eight, fined, 7, 7);
        settledIs(eight, "gift 0 1 1;gift 2 3 2;gift 4 5 3;gift 6 7 4;", 4, 4);
        settledIs(eight, "gift 0 1 5;gift 1 2 5;gift 2 3 5;gift 3 4 5;gift 4 5 5;gift 5 6 5;gift 6 7 5;", 7, 1);
        settledIs(eight, "gift 0 1 3;gift 0 2 4;gift 3 1 1;gift 3 4 5;gift 5 2 2;gift 6 7 9;fine 6 theft;", 7, 6);
    }

    private static void settledByNone() {
        check.sentence("Promise 27", "SETTLED. NONE: by none (inches came of nobody), there is no such STATE, or none such"
                + " (of either).");
        settledIs(TWO, "fine 0 lie;stretch 0 1;", 2, NONE);
        settledIs(TWO, "fine 0 lie;stretch 0 3;", 2, NONE);
        settledIs(TWO, "gift 0 1 1;stretch 0 1;", 2, NONE);
        settledIs(TWO, "fine 0 lie;stretch 1 1;", 2, 1);
        settledIs(TWO, "gift 0 1 1;stretch 1 9;", 2, 1);
    }

    private static void settledOfNone() {
        check.sentence("Promise 27", "NONE: by none (inches came of nobody), there is no such STATE, or none such (of either).");
        HeightFine x = new HeightFine();
        check.due("neither", x.settled(0, 0, 0), NONE);
        x.text(0, NONE);
        check.due("no YEAR", x.settled(0, 0, 0), NONE);
        x.text(1, NONE);
        check.due("both", x.settled(0, 0, 0), 0);
        check.dueToEach("BOROUGH", b -> x.settled(b, 0, 0), NONE, LEAST, -2, -1, 1, 2, GREATEST);
        check.dueToEach("YEAR", y -> x.settled(0, y, 0), NONE, LEAST, -2, -1, 1, 2, GREATEST);
        check.dueToEach("STATE", n -> x.settled(0, 0, n), NONE, LEAST, -1, 1, GREATEST);
        HeightFine noBorough = new HeightFine();
        noBorough.text(1, NONE);
        check.due("no BOROUGH", noBorough.settled(0, 0, 0), NONE);
    }
}
