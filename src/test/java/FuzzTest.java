import java.lang.management.ManagementFactory;
import java.util.Random;

/**
 * Runs of 512 calls with any arguments: no call may throw, the same calls give the same answers, and
 * what a run makes stays far below what the room holds.
 */
public final class FuzzTest {
    private static final Check check = new Check();
    private static final int RUNS = 300;
    private static final int CALLS = 512;
    private static final int MOST_TO_TELL = 34;
    private static final long MOST_BYTES = 200_000;

    private static Random random;

    public static void main(String[] args) {
        play(0, false);
        long before = allocated();
        long empty = allocated() - before;
        for (int run = 0; run < RUNS; run++) {
            check.due("run " + run + ", the same again", play(run, false), play(run, false));
        }
        long most = 0;
        for (int run = 0; run < RUNS; run++) {
            most = Math.max(most, bytesOf(run) - empty);
        }
        check.due("a run's calls make few bytes: " + most, most <= MOST_BYTES, true);
        for (int run = 0; run < 30; run++) {
            usedAgain(run);
        }
        check.finish();
    }

    /** A call answers the same on an object that has answered others as on a new one. */
    private static void usedAgain(int run) {
        random = new Random(run);
        HeightFine used = filled(run);
        for (int k = 0; k < 250; k++) {
            int which = 4 + random.nextInt(22);
            int[] a = {random.nextInt(2), random.nextInt(2), random.nextInt(4), random.nextInt(4), random.nextInt(3)};
            a[1] = random.nextBoolean() ? any() : a[1];
            a[2] = random.nextBoolean() ? any() : a[2];
            check.due("call " + which + " of run " + run, call(used, which, a), call(filled(run), which, a));
        }
    }

    private static HeightFine filled(int run) {
        String small = "person 7;person 5;person 5;child 0 1;poor 2;door 3;pass 0 0;pass 1 0;work 9;work 4;wish 0 lie 9;";
        String great = "person 9;person 30;person 12;person 90;person 4;person 4;person 8;person 6;child 3 2;child 2 1;"
                + "poor 3;poor 4;door 5;door 9;door 1;pass 0 0;pass 1 2;pass 3 2;pass 4 1;pass 5 0;"
                + "work 9;work 31;work 5;work 14;work 2;work 99;wish 7 lie 3;";
        HeightFine x = new HeightFine();
        for (int k = 0; k < 2; k++) {
            boolean first = (run + k) % 2 == 0;
            Check.tell(x, 0, HeightFine.NONE, first ? small : great);
            Check.tell(x, 1, HeightFine.NONE, first ? "fine 1 speed;gift 0 2 1;" : "fine 1 theft;give 2 1;gift 1 0 3;fine 0 lie;");
            Check.tell(x, 2, HeightFine.NONE, first ? Check.LEDGER : "owed 5;got 1 2;got 7 3;got 4 5;");
            Check.tell(x, 3, HeightFine.NONE, first ? "" : "tall 1 5;");
        }
        return x;
    }

    private static long allocated() {
        java.lang.management.ThreadMXBean bean = ManagementFactory.getThreadMXBean();
        return bean instanceof com.sun.management.ThreadMXBean
                ? ((com.sun.management.ThreadMXBean) bean).getThreadAllocatedBytes(Thread.currentThread().getId()) : 0;
    }

    /** What the test itself makes is counted too, by a run that leaves out the calls. */
    private static long bytesOf(int run) {
        long start = allocated();
        play(run, true);
        long middle = allocated();
        play(run, false);
        return allocated() - middle - (middle - start);
    }

    private static final String[] TEXTS = {
        Check.BOROUGH, Check.YEAR, Check.LEDGER, Check.SIGHT,
        Check.times(8, "person 99;") + Check.times(6, "door 50;work 99;") + "pass 0 0;pass 7 5;wish 7 insult 99;",
        Check.times(8, "person 1;") + Check.times(6, "work 99;") + "child 0 1;child 1 2;child 2 3;child 3 4;child 4 5;"
                + "child 5 6;child 6 7;poor 0;poor 7;",
        Check.times(40, "fine 0 speed;"), Check.times(10, "tall 0 5;"), "tall 7 1;", "",
        "got 0 99;got 1 99;got 2 99;got 3 99;got 4 99;got 5 99;got 6 99;got 7 99;owed 99;", "person 5", "child 0 1;"
    };

    private static long play(int run, boolean idle) {
        random = new Random(run);
        HeightFine x = idle ? null : new HeightFine();
        long sum = 0;
        int calls = 0;
        while (calls < CALLS) {
            if (random.nextInt(12) == 0 && calls + MOST_TO_TELL <= CALLS) {
                String text = TEXTS[random.nextInt(TEXTS.length)];
                calls += 4 + text.length() / 20;
                int sort = random.nextInt(4);
                int at = random.nextInt(4) == 0 ? any() : HeightFine.NONE;
                if (!idle && x.end(0) == 0) {
                    Check.feed(x, text);
                    sum = 31 * sum + x.text(sort, at);
                }
            } else {
                int which = random.nextInt(29);
                int[] a = {any(), any(), any(), any(), any()};
                sum = 31 * sum + (idle ? 0 : call(x, which, a));
                calls++;
            }
        }
        return sum;
    }

    private static int any() {
        switch (random.nextInt(12)) {
            case 0:
                return random.nextInt();
            case 1:
                return random.nextInt(120) - 10;
            case 2:
                return Integer.MIN_VALUE + random.nextInt(3);
            case 3:
                return Integer.MAX_VALUE - random.nextInt(3);
            case 4:
                return 10 + random.nextInt(20);
            case 5:
            case 6:
                return random.nextInt(10) - 2;
            default:
                return random.nextInt(2);
        }
    }

    private static long call(HeightFine x, int which, int[] a) {
        boolean flag = (a[2] & 1) != 0;
        switch (which) {
            case 0: return x.feed(a[0], a[1], a[2], a[3], a[4]);
            case 1: return x.end(a[0]);
            case 2: return x.text(a[0], a[1]);
            case 3: return x.fault(a[0]);
            case 4: return x.borough(a[0], a[1]);
            case 5: return x.deed(a[0], a[1], a[2]);
            case 6: return x.stop(a[0], a[1]);
            case 7: return x.state(a[0], a[1], a[2], a[3]);
            case 8: return x.reached(a[0], a[1], a[2]);
            case 9: return x.cut(a[0], a[1], a[2]);
            case 10: return x.love(a[0], a[1], flag);
            case 11: return x.dares(a[0], a[1], a[2], a[3]);
            case 12: return x.share(a[0], a[1], a[2], a[3]);
            case 13: return x.elder(a[0], a[1], a[2]);
            case 14: return x.ledger(a[0], a[1]);
            case 15: return x.fact(a[0], a[1], a[2]);
            case 16: return x.rows(a[0], a[1], a[2], a[3], a[4]);
            case 17: return x.sure(a[0], a[1], a[2], a[3]);
            case 18: return x.drawn(a[0], a[1], a[2], a[3]);
            case 19: return x.family(a[0], a[1], a[2]);
            case 20: return x.views(a[0], a[1]);
            case 21: return x.shoulders(a[0], a[1]);
            case 22: return x.hats(a[0], flag);
            case 23: return x.teams(a[0], flag);
            case 24: return x.assumed(a[0], a[1], a[2]);
            case 25: return x.settled(a[0], a[1], a[2]);
            case 26: return x.count(a[0]);
            case 27: return x.image(a[0]) ? 1 : 0;
            default: return x.again(a[0]) ? 1 : 0;
        }
    }
}
