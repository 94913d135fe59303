/** Promises 8, 9, 20 and 27: YEARS of a BOROUGH, by DEEDS or by a seed, and how they are settled. */
public final class YearTest {
    private static final int NONE = HeightFine.NONE;
    private static final Check check = new Check();

    public static void main(String[] args) {
        theYear();
        ranks();
        whatCanNotBe();
        up();
        wrongArguments();
        drawn();
        settled();
        check.finish();
    }

    private static HeightFine withYear(String borough, String year) {
        HeightFine x = Check.withBorough(borough);
        check.due("the YEAR", Check.tell(x, 1, NONE, year), 0);
        return x;
    }

    private static void theYear() {
        HeightFine x = withYear(Check.BOROUGH, Check.YEAR);
        check.due("stop", x.stop(0, 0), 9);
        int[][] inches = {{20, 15, 9, 4}, {14, 15, 9, 4}, {14, 15, 9, 9}, {14, 15, 7, 8}, {14, 11, 11, 8},
            {20, 11, 11, 8}, {20, 11, 11, 8}, {20, 11, 5, 8}, {20, 11, 14, 8}, {20, 11, 14, 7}};
        int[] press = {0, 6, 1, 4, 4, 4, 4, 10, 1, 2};
        int[] bowed = {0, 1, 1, 5, 3, 2, 2, 6, 2, 2};
        int[] raised = {0, 0, 8, 8, 12, 12, 12, 8, 12, 12};
        int[] up = {0, 0, 0, 0, 0, 0, 0, 0, 1, 1};
        for (int n = 0; n <= 9; n++) {
            check.due("PRESS behind " + n, x.state(0, 0, n, 0), press[n]);
            check.due("BOWED behind " + n, x.state(0, 0, n, 1), bowed[n]);
            check.due("RAISED behind " + n, x.state(0, 0, n, 2), raised[n]);
            check.due("UP behind " + n, x.state(0, 0, n, 3), up[n]);
            for (int p = 0; p < 4; p++) {
                check.due("inches behind " + n, x.state(0, 0, n, 10 + p), inches[n][p]);
            }
        }
        check.due("no such STATE", x.state(0, 0, 10, 0), -2);
        check.due("no such STATE", x.state(0, 0, 11, 0), -2);
        check.due("no such STATE", x.state(0, 0, -1, 0), -2);
    }

    private static void ranks() {
        HeightFine x = withYear(Check.BOROUGH, Check.YEAR);
        int[] first = {0, 1, 2, 3};
        int[] behindFour = {0, 1, 2, 3};
        int[] behindNine = {0, 2, 1, 3};
        for (int k = 0; k < 4; k++) {
            check.due("RANK", x.state(0, 0, 0, 20 + k), first[k]);
            check.due("RANK of like ones", x.state(0, 0, 4, 20 + k), behindFour[k]);
            check.due("RANK", x.state(0, 0, 9, 20 + k), behindNine[k]);
        }
        HeightFine y = withYear("person 5;person 9;person 5;person 9;person 1;", "");
        int[] like = {1, 3, 0, 2, 4};
        for (int k = 0; k < 5; k++) {
            check.due("RANK of like ones", y.state(0, 0, 0, 20 + k), like[k]);
        }
        check.due("stop of no DEEDS", y.stop(0, 0), 0);
    }

    private static void stops(String borough, String deed, int stop) {
        check.due("'" + deed + "' in '" + borough + "'", withYear(borough, deed).stop(0, 0), stop);
    }

    private static void whatCanNotBe() {
        stops("person 7;", "fine 0 theft;", 1);
        stops("person 6;", "fine 0 theft;", 0);
        stops("person 6;", "fine 1 theft;", 0);
        stops("person 9;costs insult 8;", "fine 0 insult;", 1);
        stops("person 8;costs insult 8;", "fine 0 insult;", 0);
        stops("person 4;person 4;child 0 1;", "bail 0 theft;", 1);
        stops("person 4;person 3;child 0 1;", "bail 0 theft;", 0);
        stops("person 3;person 4;child 0 1;", "bail 0 theft;", 0);
        stops("person 1;person 2;child 0 1;", "bail 0 speed;", 1);
        stops("person 2;person 3;child 0 1;", "bail 0 lie;", 1);
        stops("person 2;person 2;child 0 1;", "bail 0 lie;", 0);
        stops("person 9;person 9;child 0 1;", "bail 1 lie;", 0);
        stops("person 9;person 9;child 0 1;", "bail 2 lie;", 0);
        stops("person 9;person 9;poor 1;", "fine 0 lie;give 1 3;", 2);
        stops("person 9;person 9;poor 1;", "fine 0 lie;give 1 4;", 1);
        stops("person 9;person 9;poor 0;", "fine 0 lie;give 1 3;", 1);
        stops("person 9;person 96;poor 1;", "fine 0 lie;give 1 3;", 2);
        stops("person 9;person 97;poor 1;", "fine 0 lie;give 1 3;", 1);
        stops("person 9;poor 0;", "give 0 1;", 0);
        stops("person 9;person 9;", "gift 0 1 8;", 1);
        stops("person 9;person 9;", "gift 0 1 9;", 0);
        stops("person 9;person 95;", "gift 0 1 4;", 1);
        stops("person 9;person 95;", "gift 0 1 5;", 0);
        stops("person 9;person 9;", "gift 0 2 1;", 0);
        stops("person 9;person 9;", "gift 2 0 1;", 0);
        stops("person 9;", "stretch 0 5;stretch 0 99;", 2);
        stops("person 9;", "stretch 1 5;", 0);
        stops("", "fine 0 lie;", 0);
        stops("person 9;", "fine 0 theft;fine 0 theft;fine 0 lie;", 1);
        HeightFine x = withYear("person 9;person 9;", "fine 0 theft;stretch 0 4;stretch 0 4;gift 0 1 3;stretch 1 5;stretch 0 1;");
        int[] first = {9, 3, 7, 9, 6, 6, 7};
        int[] second = {9, 9, 9, 9, 12, 12, 12};
        for (int n = 0; n < first.length; n++) {
            check.due("stretched", x.state(0, 0, n, 10), first[n]);
            check.due("stretched", x.state(0, 0, n, 11), second[n]);
        }
        HeightFine y = withYear("person 20;person 20;child 0 1;costs theft 7;", "bail 0 theft;");
        check.due("bail, the child", y.state(0, 0, 1, 10), 17);
        check.due("bail, the PARENT", y.state(0, 0, 1, 11), 16);
        check.due("bail, the PRESS", y.state(0, 0, 1, 0), 7);
    }

    /** Couples of a POOR one and one who is not. */
    private static void up() {
        HeightFine x = withYear("person 9;person 5;person 3;person 3;person 8;poor 0;poor 1;poor 3;", "");
        check.due("UP", x.state(0, 0, 0, 3), 3);
    }

    private static void wrongArguments() {
        HeightFine x = withYear(Check.BOROUGH, Check.YEAR);
        check.due("stop of no BOROUGH", x.stop(1, 0), NONE);
        check.due("stop of no YEAR", x.stop(0, 1), NONE);
        check.due("stop", x.stop(-1, 0), NONE);
        check.due("stop", x.stop(0, -1), NONE);
        check.due("state of no BOROUGH", x.state(1, 0, 0, 0), -2);
        check.due("state of no YEAR", x.state(0, 1, 0, 0), -2);
        int[] none = {-1, 4, 9, 14, 19, 24, 28, 30, Integer.MIN_VALUE, Integer.MAX_VALUE};
        for (int what : none) {
            check.due("state, what " + what, x.state(0, 0, 0, what), -2);
            check.due("drawn, what " + what, x.drawn(0, 1, 3, what), -2);
        }
        check.due("settled of no BOROUGH", x.settled(1, 0, 0), NONE);
        check.due("settled of no YEAR", x.settled(0, 1, 0), NONE);
        check.due("settled in no STATE", x.settled(0, 0, 10), NONE);
        check.due("settled in no STATE", x.settled(0, 0, -1), NONE);
        check.due("drawn of no BOROUGH", x.drawn(1, 1, 3, 0), -2);
        check.due("drawn of no BOROUGH", x.drawn(-1, 1, 3, 0), -2);
        check.due("drawn 61 times", x.drawn(0, 1, 61, 0), -2);
        check.due("drawn -1 times", x.drawn(0, 1, -1, 0), -2);
        check.due("drawn without PEOPLE", Check.withBorough("").drawn(0, 1, 0, 0), -2);
    }

    /** The numbers of seed 1, one by one, as the document draws them. */
    private static void drawn() {
        HeightFine x = Check.withBorough("person 50;person 40;child 0 1;poor 1;");
        check.due("drawn 0 times", x.drawn(0, 1, 0, 10), 50);
        int seed = 1;
        int[] tall = {50, 40};
        int press = 0;
        int[] fines = {6, 3, 1, 2};
        for (int n = 1; n <= 60; n++) {
            seed = seed * 1103515245 + 12345;
            int p = (seed >>> 16) % 2;
            seed = seed * 1103515245 + 12345;
            int kind = (seed >>> 16) % 8;
            int more = 0;
            int most = 0;
            if (kind >= 4) {
                seed = seed * 1103515245 + 12345;
                more = seed >>> 16;
            }
            if (kind == 7) {
                seed = seed * 1103515245 + 12345;
                most = 1 + (seed >>> 16) % 5;
            }
            if (kind < 4 && tall[p] > fines[kind]) {
                tall[p] -= fines[kind];
                press += fines[kind];
            } else if (kind == 4 && p == 0) {
                int fine = fines[more % 4];
                int up = fine - fine / 2;
                if (tall[1] > up && tall[0] > fine / 2) {
                    tall[1] -= up;
                    tall[0] -= fine / 2;
                    press += fine;
                }
            } else if (kind == 5 && p == 1 && press > more % 5 && tall[1] + 1 + more % 5 <= 99) {
                press -= 1 + more % 5;
                tall[1] += 1 + more % 5;
            } else if (kind == 6) {
                int first = p == 0 ? 50 : 40;
                tall[p] = Math.max(tall[p], Math.min(first, tall[p] + 1 + more % 5));
            } else if (kind == 7 && more % 2 != p && tall[p] > most && tall[1 - p] + most <= 99) {
                tall[p] -= most;
                tall[1 - p] += most;
            }
            check.due("drawn, PRESS", x.drawn(0, 1, n, 0), press);
            check.due("drawn, inches", x.drawn(0, 1, n, 10), tall[0]);
            check.due("drawn, inches", x.drawn(0, 1, n, 11), tall[1]);
            check.due("drawn, RANK", x.drawn(0, 1, n, 20), tall[1] > tall[0] ? 1 : 0);
            check.due("drawn, UP", x.drawn(0, 1, n, 3), tall[1] > tall[0] ? 1 : 0);
            check.due("drawn, BOWED", x.drawn(0, 1, n, 1), (tall[0] < 50 ? 1 : 0) + (tall[1] < 40 ? 2 : 0));
            check.due("drawn, RAISED", x.drawn(0, 1, n, 2), (tall[0] > 50 ? 1 : 0) + (tall[1] > 40 ? 2 : 0));
        }
        int first = (1103515245 + 12345 >>> 16) % 2;
        HeightFine y = Check.withBorough("person 30;person 30;costs theft 1;costs lie 1;costs insult 1;");
        int x1 = 1103515245 + 12345;
        int x2 = x1 * 1103515245 + 12345;
        if ((x2 >>> 16) % 8 < 4) {
            check.due("the first one drawn", y.drawn(0, 1, 1, 10 + first), 29);
        }
    }

    private static void settled() {
        HeightFine x = withYear(Check.BOROUGH, Check.YEAR);
        int[] due = {0, 1, 2, 3, 3, NONE, NONE, NONE, NONE, NONE};
        for (int n = 0; n < due.length; n++) {
            check.due("settled behind " + n, x.settled(0, 0, n), due[n]);
        }
        String four = "person 20;person 20;person 20;person 20;";
        check.due("two couples", withYear(four, "gift 0 1 3;gift 2 3 4;").settled(0, 0, 2), 2);
        check.due("a chain", withYear(four, "gift 0 1 3;gift 1 2 3;gift 2 3 3;").settled(0, 0, 3), 1);
        check.due("a star", withYear(four, "gift 0 1 3;gift 0 2 4;gift 0 3 5;").settled(0, 0, 3), 3);
        check.due("back again", withYear(four, "gift 0 1 3;gift 1 0 3;").settled(0, 0, 2), 0);
        check.due("the PRESS", withYear(four, "fine 0 lie;fine 1 theft;fine 2 lie;").settled(0, 0, 3), 3);
        check.due("the PRESS and a couple", withYear(four, "fine 0 lie;gift 1 2 5;").settled(0, 0, 2), 2);
        check.due("nobody's inches", withYear(four, "fine 0 lie;stretch 0 1;").settled(0, 0, 2), NONE);
        check.due("a stretch of none", withYear(four, "stretch 0 1;fine 0 lie;").settled(0, 0, 2), 1);
        check.due("no PEOPLE", withYear("", "").settled(0, 0, 0), 0);
    }
}
