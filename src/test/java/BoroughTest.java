/** Promises 10 to 15 and 21 to 26: what follows from a BOROUGH as told. */
public final class BoroughTest {
    private static final int NONE = HeightFine.NONE;
    private static final Check check = new Check();

    public static void main(String[] args) {
        reached();
        cut();
        love();
        even();
        dares();
        share();
        elder();
        family();
        views();
        shoulders();
        hats();
        teams();
        assumed();
        check.finish();
    }

    private static void reachedIs(HeightFine x, int n, int... due) {
        check.due("reached of " + n, x.reached(0, n, 0), due[0]);
        check.due("fewest inches of " + n, x.reached(0, n, 1), due[1]);
        for (int w = 0; w + 2 < due.length; w++) {
            check.due("reached of " + n + ", WORK " + w, x.reached(0, n, 10 + w), due[w + 2]);
        }
    }

    private static void reached() {
        HeightFine x = Check.withBorough(Check.BOROUGH);
        reachedIs(x, 0, 2, 0, 0, 1, 8);
        reachedIs(x, 4, 2, 0, 0, 1, 8);
        reachedIs(x, 7, 2, 0, 0, 1, 8);
        reachedIs(x, 8, 3, 8, 1, 2, 0);
        reachedIs(x, 99, 3, 8, 1, 2, 0);
        check.due("no such WORK", x.reached(0, 0, 13), NONE);
        check.due("what 2", x.reached(0, 0, 2), NONE);
        check.due("what 9", x.reached(0, 0, 9), NONE);
        check.due("what -1", x.reached(0, 0, -1), NONE);
        check.due("n -1", x.reached(0, -1, 0), NONE);
        check.due("n 100", x.reached(0, 100, 0), NONE);
        check.due("no BOROUGH", x.reached(1, 0, 0), NONE);
        check.due("no BOROUGH", x.reached(-1, 0, 0), NONE);
        reachedIs(Check.withBorough("work 5;work 6;"), 99, 0, 0, 8, 8);
        reachedIs(Check.withBorough("person 5;person 6;"), 99, 0, 0);
        reachedIs(Check.withBorough("person 9;person 9;work 5;work 5;"), 0, 2, 0, 0, 1);
        reachedIs(Check.withBorough("person 9;work 5;work 5;work 9;"), 5, 1, 0, 0, 8, 8);
        reachedIs(Check.withBorough("person 3;work 5;work 4;work 4;"), 5, 1, 1, 8, 0, 8);
        reachedIs(Check.withBorough("person 3;person 4;work 5;"), 9, 1, 1, 1);
        reachedIs(Check.withBorough("person 3;person 4;work 5;"), 0, 0, 0, 8);
    }

    private static void cutIs(HeightFine x, int n, int... due) {
        check.due("cut of " + n, x.cut(0, n, 0), due[0]);
        for (int d = 0; d + 1 < due.length; d++) {
            check.due("cut of " + n + ", DOOR " + d, x.cut(0, n, 10 + d), due[d + 1]);
        }
    }

    private static void cut() {
        HeightFine x = Check.withBorough(Check.BOROUGH);
        cutIs(x, 0, 2, 0, 0);
        cutIs(x, 3, 2, 0, 0);
        cutIs(x, 4, 3, 0, 4);
        cutIs(x, 5, 3, 0, 4);
        cutIs(x, 8, 3, 0, 4);
        cutIs(x, 9, 4, 5, 4);
        cutIs(x, 14, 5, 10, 4);
        cutIs(x, 99, 5, 10, 4);
        check.due("no such DOOR", x.cut(0, 0, 12), NONE);
        check.due("what 1", x.cut(0, 0, 1), NONE);
        check.due("what -1", x.cut(0, 0, -1), NONE);
        check.due("n -1", x.cut(0, -1, 0), NONE);
        check.due("n 100", x.cut(0, 100, 0), NONE);
        check.due("no BOROUGH", x.cut(1, 0, 0), NONE);
        check.due("no BOROUGH", x.cut(-1, 0, 0), NONE);
        cutIs(Check.withBorough("person 9;"), 50, 0);
        HeightFine eight = Check.withBorough("person 2;person 3;person 4;person 5;person 6;person 7;person 8;person 9;"
                + "door 1;door 1;" + "pass 0 0;pass 1 0;pass 2 0;pass 3 0;pass 4 0;pass 5 0;pass 6 0;pass 7 0;pass 0 1;");
        cutIs(eight, 0, 0, 0, 0);
        cutIs(eight, 7, 7, 6, 1);
        cutIs(eight, 8, 8, 7, 1);
        cutIs(eight, 9, 9, 8, 1);
        cutIs(eight, 99, 9, 8, 1);
        cutIs(Check.withBorough("person 9;door 8;door 8;pass 0 0;pass 0 1;"), 1, 1, 0, 1);
        cutIs(Check.withBorough("person 9;door 8;door 99;"), 1, 0, 0, 0);
        cutIs(Check.withBorough("person 9;person 9;person 7;door 6;door 6;pass 0 0;pass 1 0;pass 2 1;"), 3, 2, 3, 0);
    }

    private static void love() {
        HeightFine x = Check.withBorough(Check.BOROUGH);
        int[] ns = {0, 4, 5, 6, 10, 11, 99};
        int[] due = {0, 0, 2, 2, 2, 2, 2};
        for (int k = 0; k < ns.length; k++) {
            check.due("love of " + ns[k], x.love(0, ns[k], false), due[k]);
        }
        HeightFine y = Check.withBorough("person 5;person 5;person 7;");
        check.due("love of 0", y.love(0, 0, false), 1);
        check.due("love of 2", y.love(0, 2, false), 1);
        check.due("three alike", Check.withBorough(Check.times(3, "person 5;")).love(0, 0, false), 1);
        check.due("eight alike", Check.withBorough(Check.times(8, "person 5;")).love(0, 0, false), 4);
        check.due("a chain", Check.withBorough("person 6;person 2;person 8;person 4;").love(0, 2, false), 2);
        check.due("no PEOPLE", Check.withBorough("").love(0, 0, false), 0);
        for (boolean even : new boolean[] {false, true}) {
            check.due("n -1", x.love(0, -1, even), NONE);
            check.due("n 100", x.love(0, 100, even), NONE);
            check.due("no BOROUGH", x.love(1, 0, even), NONE);
            check.due("no BOROUGH", x.love(-1, 0, even), NONE);
        }
    }

    private static void even() {
        HeightFine x = Check.withBorough(Check.BOROUGH);
        check.due("even of 0: 48 by four", x.love(0, 0, true), 11);
        check.due("even of 1", x.love(0, 1, true), 11);
        check.due("even of 2", x.love(0, 2, true), 9);
        check.due("even of 15", x.love(0, 15, true), 1);
        check.due("even of 16", x.love(0, 16, true), 0);
        check.due("even of 99", x.love(0, 99, true), 0);
        HeightFine y = Check.withBorough("person 5;person 5;person 7;");
        check.due("even of 0: 17 by three", y.love(0, 0, true), NONE);
        check.due("even of 1", y.love(0, 1, true), 1);
        check.due("even of 2", y.love(0, 2, true), 0);
        check.due("no PEOPLE", Check.withBorough("").love(0, 0, true), 0);
        check.due("one", Check.withBorough("person 9;").love(0, 0, true), 0);
        check.due("99 and 1", Check.withBorough("person 99;person 1;").love(0, 0, true), 49);
        check.due("99 and 98", Check.withBorough("person 99;person 98;").love(0, 0, true), NONE);
        check.due("99 and 99", Check.withBorough("person 99;person 99;").love(0, 0, true), 0);
    }

    private static void dares() {
        HeightFine x = Check.withBorough(Check.BOROUGH);
        int[] who = {11, 3, 3, 1, 1, 1, 1, 0, 0};
        int[] harm = {7, 6, 6, 4, 4, 4, 4, 0, 0};
        int[] taken = {15, 20, 30, 20, 25, 30, 35, 0, 0};
        for (int f = 1; f <= 9; f++) {
            check.due("dares " + f, x.dares(0, 0, f, 0), who[f - 1]);
            check.due("harm of " + f, x.dares(0, 0, f, 1), harm[f - 1]);
            check.due("taken of " + f, x.dares(0, 0, f, 2), taken[f - 1]);
            check.due("nobody wishes", x.dares(0, 1, f, 0), 0);
        }
        check.due("deters, whatever f is", x.dares(0, 0, -7, 3), 8);
        check.due("best, whatever f is", x.dares(0, 0, 100, 4), 7);
        check.due("deters where nobody wishes", x.dares(0, 3, 1, 3), 1);
        check.due("best where nobody wishes", x.dares(0, 3, 1, 4), 1);
        check.due("f 0", x.dares(0, 0, 0, 0), -2);
        check.due("f 10", x.dares(0, 0, 10, 2), -2);
        check.due("what 5", x.dares(0, 0, 1, 5), -2);
        check.due("what -1", x.dares(0, 0, 1, -1), -2);
        check.due("OFFENCE 4", x.dares(0, 4, 1, 0), -2);
        check.due("OFFENCE 4", x.dares(0, 4, 1, 3), -2);
        check.due("OFFENCE -1", x.dares(0, -1, 1, 4), -2);
        check.due("no BOROUGH", x.dares(1, 0, 1, 3), -2);
        check.due("no BOROUGH", x.dares(-1, 0, 1, 0), -2);

        HeightFine never = Check.withBorough("person 1;caught 0;wish 0 lie 1;");
        check.due("never caught: dares", never.dares(0, 1, 9, 0), 1);
        check.due("never caught: deters", never.dares(0, 1, 9, 3), NONE);
        check.due("never caught: taken", never.dares(0, 1, 9, 2), 0);
        check.due("never caught: best", never.dares(0, 1, 9, 4), 1);
        HeightFine always = Check.withBorough("person 1;person 1;caught 10;wish 0 lie 4;wish 1 lie 2;");
        check.due("always caught: 2 inches' fine against a wish of 2", always.dares(0, 1, 2, 0), 1);
        check.due("always caught: 1 inch", always.dares(0, 1, 1, 0), 3);
        check.due("always caught: best", always.dares(0, 1, 1, 4), 3);
        check.due("always caught: deters", always.dares(0, 1, 1, 3), 4);
        HeightFine insults = Check.withBorough("person 1;person 1;caught 10;wish 0 insult 9;wish 1 insult 30;wish 0 lie 50;");
        check.due("another OFFENCE: harm", insults.dares(0, 3, 1, 1), 39);
        check.due("another OFFENCE: harm", insults.dares(0, 3, 9, 1), 30);
        check.due("another OFFENCE: best", insults.dares(0, 3, 1, 4), 8);
        check.due("another OFFENCE: deters", insults.dares(0, 3, 1, 3), NONE);
        HeightFine nine = Check.withBorough("person 1;caught 10;wish 0 lie 9;wish 0 theft 10;");
        check.due("9 deters", nine.dares(0, 1, 1, 3), 9);
        check.due("9 is best", nine.dares(0, 0, 1, 4), 9);
        HeightFine several = Check.withBorough("person 1;person 1;caught 10;wish 0 lie 3;wish 1 lie 2;");
        check.due("of several the least", several.dares(0, 1, 1, 4), 1);
    }

    private static void share() {
        HeightFine x = Check.withBorough(Check.BOROUGH);
        shareIs(x, 3, 9, 0, 0, 3, 3, 3);
        shareIs(x, 3, 5, 0, 0, 2, 1, 2);
        shareIs(x, 3, 1, 0, 0, 1, 0, 0);
        shareIs(x, 3, 10, 0, 0, 4, 3, 3);
        shareIs(x, 3, 99, 74, 0, 14, 8, 3);
        shareIs(x, 1, 5, 0, 0, 5, 0, 0);
        shareIs(x, 1, 15, 1, 0, 14, 0, 0);
        shareIs(x, 0, 7, 0, 3, 4, 0, 0);
        shareIs(x, 0, 99, 66, 19, 14, 0, 0);
        check.due("n 0", x.share(0, 0, 0, 0), NONE);
        check.due("n 100", x.share(0, 0, 100, 0), NONE);
        check.due("no PERSON", x.share(0, 4, 5, 0), NONE);
        check.due("no PERSON", x.share(0, -1, 5, 0), NONE);
        check.due("no other one", x.share(0, 0, 5, 4), NONE);
        check.due("no other one", x.share(0, 0, 5, -2), NONE);
        check.due("no BOROUGH", x.share(1, 0, 5, 0), NONE);
        check.due("no BOROUGH", x.share(-1, 0, 5, NONE), NONE);
    }

    private static void shareIs(HeightFine x, int person, int n, int lost, int... due) {
        String call = "share of " + person + ", " + n;
        check.due(call + ", lost", x.share(0, person, n, NONE), lost);
        for (int who = 0; who < due.length; who++) {
            check.due(call + ", who " + who, x.share(0, person, n, who), due[who]);
        }
    }

    private static void elder() {
        HeightFine x = Check.withBorough(Check.BOROUGH + "person 5;");
        int[][] due = {{0, 1, 1, 1, NONE}, {1, 1, 1, 1, NONE}, {1, 1, 2, 2, NONE}, {1, 1, 2, 3, NONE},
            {NONE, NONE, NONE, NONE, 4}};
        for (int a = 0; a < 5; a++) {
            for (int b = 0; b < 5; b++) {
                check.due("elder of " + a + ", " + b, x.elder(0, a, b), due[a][b]);
            }
        }
        check.due("no PERSON", x.elder(0, 0, 5), NONE);
        check.due("no PERSON", x.elder(0, -1, 0), NONE);
        check.due("no BOROUGH", x.elder(1, 0, 0), NONE);
        check.due("no BOROUGH", x.elder(-1, 0, 0), NONE);
    }

    private static void family() {
        HeightFine x = Check.withBorough(Check.BOROUGH);
        int[][] due = {{1, 20, 0}, {15, 48, 2}, {12, 13, 1}, {8, 4, 0}};
        for (int p = 0; p < 4; p++) {
            for (int what = 0; what < 3; what++) {
                check.due("family of " + p + ", what " + what, x.family(0, p, what), due[p][what]);
            }
            check.due("what 3", x.family(0, p, 3), NONE);
            check.due("what -1", x.family(0, p, -1), NONE);
        }
        check.due("no PERSON", x.family(0, 4, 0), NONE);
        check.due("no PERSON", x.family(0, -1, 0), NONE);
        check.due("no BOROUGH", x.family(1, 0, 0), NONE);
    }

    private static void views() {
        HeightFine x = Check.withBorough(Check.BOROUGH);
        long[] due = {0, 6, 11, 6, 1, 0};
        for (int k = 0; k < due.length; k++) {
            check.due("views of " + k, x.views(0, k), due[k]);
        }
        HeightFine y = Check.withBorough("person 5;person 5;person 7;");
        check.due("views of 1", y.views(0, 1), 2);
        check.due("views of 2", y.views(0, 2), 4);
        check.due("views of 3", y.views(0, 3), 0);
        HeightFine alike = Check.withBorough(Check.times(8, "person 5;"));
        check.due("all alike", alike.views(0, 1), 40320);
        check.due("all alike", alike.views(0, 2), 0);
        HeightFine none = Check.withBorough("");
        check.due("no PEOPLE", none.views(0, 0), 1);
        check.due("no PEOPLE", none.views(0, 1), 0);
        check.due("k -1", x.views(0, -1), 0);
        check.due("k 8", x.views(0, 8), 0);
        check.due("k 9", x.views(0, 9), 0);
        check.due("k least", x.views(0, Integer.MIN_VALUE), 0);
        check.due("k greatest", x.views(0, Integer.MAX_VALUE), 0);
        check.due("no BOROUGH", x.views(1, 1), NONE);
        check.due("no BOROUGH", x.views(-1, 1), NONE);
    }

    private static void shoulders() {
        HeightFine x = Check.withBorough(Check.BOROUGH);
        int[] ns = {Integer.MIN_VALUE, -1, 0, 1, 4, 5, 9, 16, 20, 21, 24, 25, 35, 36, 44, 45, 48, 49, Integer.MAX_VALUE};
        int[] due = {0, 0, 0, 1, 1, 1, 1, 1, 1, 3, 3, 3, 3, 7, 7, 15, 15, NONE, NONE};
        for (int k = 0; k < ns.length; k++) {
            check.due("shoulders of " + ns[k], x.shoulders(0, ns[k]), due[k]);
        }
        HeightFine y = Check.withBorough("person 3;person 5;person 9;person 9;");
        check.due("of several the least", y.shoulders(0, 9), 4);
        check.due("of several the least", y.shoulders(0, 12), 5);
        check.due("of several the least", y.shoulders(0, 15), 12);
        check.due("of several the least", y.shoulders(0, 14), 6);
        check.due("no PEOPLE, none needed", Check.withBorough("").shoulders(0, 0), 0);
        check.due("no PEOPLE", Check.withBorough("").shoulders(0, 1), NONE);
        check.due("no BOROUGH", x.shoulders(1, 1), NONE);
        check.due("no BOROUGH", x.shoulders(-1, 1), NONE);
    }

    private static void hatsAre(String borough, int inches, int highest) {
        HeightFine x = Check.withBorough(borough);
        check.due("hats of " + borough, x.hats(0, false), inches);
        check.due("highest of " + borough, x.hats(0, true), highest);
    }

    private static void hats() {
        hatsAre(Check.BOROUGH, 0, 20);
        hatsAre("person 5;person 5;person 7;", 1, 7);
        hatsAre("person 5;person 5;person 6;", 2, 7);
        hatsAre("person 6;person 5;person 5;person 5;person 20;", 1 + 2 + 2, 20);
        hatsAre(Check.times(8, "person 99;"), 28, 106);
        hatsAre("", 0, 0);
        hatsAre("person 9;", 0, 9);
        HeightFine x = new HeightFine();
        check.due("no BOROUGH", x.hats(0, false), NONE);
        check.due("no BOROUGH", x.hats(-1, true), NONE);
    }

    private static void teamsAre(String borough, int difference, int team) {
        HeightFine x = Check.withBorough(borough);
        check.due("teams of " + borough, x.teams(0, false), difference);
        check.due("team of " + borough, x.teams(0, true), team);
    }

    private static void teams() {
        teamsAre(Check.BOROUGH, 0, 9);
        teamsAre("person 5;person 5;person 7;", 3, 1 + 2);
        teamsAre("person 9;person 5;person 4;", 0, 1);
        teamsAre("person 4;person 5;person 9;", 0, 3);
        teamsAre("person 4;person 5;", 1, 1);
        teamsAre(Check.times(8, "person 5;"), 0, 15);
        teamsAre("person 90;person 1;person 1;person 1;", 89, 3);
        teamsAre(Check.times(5, "person 1;"), 1, 3);
        check.due("one", Check.withBorough("person 5;").teams(0, false), NONE);
        check.due("one", Check.withBorough("person 5;").teams(0, true), NONE);
        check.due("no PEOPLE", Check.withBorough("").teams(0, true), NONE);
        check.due("no BOROUGH", new HeightFine().teams(0, false), NONE);
        check.due("no BOROUGH", new HeightFine().teams(-1, true), NONE);
    }

    private static void assumed() {
        HeightFine x = Check.withBorough("person 20;person 15;person 9;person 4;person 4;poor 1;poor 3;poor 4;");
        int[] hs = {0, 3, 4, 8, 9, 14, 15, 19, 20, 99};
        int[] wrong = {3, 3, 1, 1, 2, 2, 1, 1, 2, 2};
        int[] above = {0, 0, 1, 1, 2, 2, 3, 3, 3, 3};
        int[] below = {1, 1, 1, 1, 3, 3, 4, 4, 5, 5};
        for (int k = 0; k < hs.length; k++) {
            check.due("wrong of " + hs[k], x.assumed(0, hs[k], 0), wrong[k]);
            check.due("part of " + hs[k] + ", above", x.assumed(0, hs[k], 1), above[k]);
            check.due("part of " + hs[k] + ", below", x.assumed(0, hs[k], 2), below[k]);
        }
        check.due("wisest", x.assumed(0, 50, 3), 4);
        check.due("wisest, whatever h is", x.assumed(0, -50, 3), 4);
        check.due("wisest, whatever h is", x.assumed(0, 1000, 3), 4);
        check.due("h -1", x.assumed(0, -1, 0), NONE);
        check.due("h 100", x.assumed(0, 100, 1), NONE);
        check.due("what 4", x.assumed(0, 5, 4), NONE);
        check.due("what -1", x.assumed(0, 5, -1), NONE);
        check.due("no BOROUGH", x.assumed(1, 5, 3), NONE);
        check.due("no BOROUGH", x.assumed(-1, 5, 0), NONE);
        HeightFine half = Check.withBorough(Check.times(6, "person 5;") + "poor 0;poor 1;poor 4;poor 5;");
        check.due("4 of 6, above", half.assumed(0, 5, 1), 2);
        check.due("4 of 6, below", half.assumed(0, 5, 2), 3);
        HeightFine noPoor = Check.withBorough("person 5;person 6;");
        check.due("none of 2, above", noPoor.assumed(0, 99, 1), 0);
        check.due("none of 2, below", noPoor.assumed(0, 99, 2), 1);
        check.due("wisest without POOR", noPoor.assumed(0, 99, 3), 0);
        HeightFine allPoor = Check.withBorough("person 5;person 99;poor 0;poor 1;");
        check.due("wisest, all POOR", allPoor.assumed(0, 0, 3), 99);
        check.due("wisest without PEOPLE", Check.withBorough("").assumed(0, 0, 3), 0);
    }
}
