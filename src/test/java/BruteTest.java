import java.util.ArrayList;
import java.util.Arrays;
import java.util.List;
import java.util.Random;

/** Random BOROUGHS, YEARS, LEDGERS, SIGHTS; the answers are found by trying all there is. */
public final class BruteTest {
    private static final int NONE = HeightFine.NONE;
    private static final Check check = new Check();
    private static final Random random = new Random(20261118);
    private static final String[] OFFENCE = Lines.OFFENCES;

    private static int[] tall;
    private static int[] parent;
    private static boolean[] poor;
    private static int[] fine;
    private static int[] reach;
    private static int[] top;
    private static boolean[][] pass;
    private static String text;

    public static void main(String[] args) {
        for (int round = 0; round < 400; round++) {
            int most = 2 + random.nextInt(12);
            people(random.nextInt(6), random.nextInt(5), most);
            HeightFine x = Check.withBorough(text);
            int n = random.nextInt(12);
            reached(x, n);
            cut(x, n);
            love(x, n);
            views(x);
            hats(x);
            teams(x);
            shoulders();
            assumed();
            kin(Check.withBorough(text));
            if (tall.length <= 4) {
                even(x, random.nextInt(4));
            }
            if (tall.length <= 3) {
                rows(x);
            }
            year();
            ledger();
        }
        for (int round = 0; round < 12; round++) {
            people(8, 6, 3 + 8 * round);
            HeightFine x = Check.withBorough(text);
            reached(x, random.nextInt(60));
            love(x, random.nextInt(20));
            views(x);
            teams(x);
            shoulders();
            assumed();
            kin(Check.withBorough(text));
            year();
        }
        check.finish();
    }

    private static void people(int many, int works, int most) {
        StringBuilder s = new StringBuilder();
        tall = new int[many];
        parent = new int[many];
        poor = new boolean[many];
        fine = new int[] {6, 3, 1, 2};
        reach = new int[works];
        top = new int[random.nextInt(4)];
        pass = new boolean[top.length][many];
        for (int p = 0; p < many; p++) {
            tall[p] = 1 + random.nextInt(most);
            s.append("person ").append(tall[p]).append(';');
            parent[p] = p == 0 ? NONE : random.nextInt(p + 1) - 1;
        }
        for (int p = 0; p < many; p++) {
            if (parent[p] != NONE) {
                s.append("child ").append(p).append(' ').append(parent[p]).append(';');
            }
            poor[p] = random.nextBoolean();
            if (poor[p]) {
                s.append("poor ").append(p).append(';');
            }
        }
        for (int o = 0; o < 4; o++) {
            if (random.nextBoolean()) {
                fine[o] = 1 + random.nextInt(4);
                s.append("costs ").append(OFFENCE[o]).append(' ').append(fine[o]).append(';');
            }
        }
        for (int w = 0; w < reach.length; w++) {
            reach[w] = 1 + random.nextInt(most + 4);
            s.append("work ").append(reach[w]).append(';');
        }
        for (int d = 0; d < top.length; d++) {
            top[d] = 1 + random.nextInt(most);
            s.append("door ").append(top[d]).append(';');
            for (int p = 0; p < many; p++) {
                pass[d][p] = random.nextInt(3) > 0;
                if (pass[d][p]) {
                    s.append("pass ").append(p).append(' ').append(d).append(';');
                }
            }
        }
        text = s.toString();
    }

    private static int[] bestRow;
    private static int bestMany;
    private static int bestInches;

    private static void reached(HeightFine x, int n) {
        bestMany = -1;
        tryRows(new int[reach.length], 0, n);
        check.due("reached of " + n + " in " + text, x.reached(0, n, 0), bestMany);
        check.due("inches of " + n + " in " + text, x.reached(0, n, 1), bestInches);
        for (int w = 0; w < reach.length; w++) {
            check.due("WORK " + w + " of " + n + " in " + text, x.reached(0, n, 10 + w), bestRow[w]);
        }
    }

    /** Rows come in their order, so that of like ones the first stays. */
    private static void tryRows(int[] row, int w, int n) {
        if (w == row.length) {
            int many = 0;
            int inches = 0;
            for (int k = 0; k < w; k++) {
                if (row[k] < 8) {
                    many++;
                    inches += Math.max(0, reach[k] - tall[row[k]]);
                }
            }
            if (inches <= n && (many > bestMany || many == bestMany && inches < bestInches)) {
                bestMany = many;
                bestInches = inches;
                bestRow = row.clone();
            }
            return;
        }
        for (int p = 0; p <= 8; p++) {
            boolean free = p == 8 || p < tall.length;
            for (int k = 0; k < w && p < 8; k++) {
                free &= row[k] != p;
            }
            if (free) {
                row[w] = p;
                tryRows(row, w + 1, n);
            }
        }
    }

    private static void cut(HeightFine x, int n) {
        bestMany = -1;
        tryRaises(new int[top.length], 0, n);
        check.due("cut of " + n + " in " + text, x.cut(0, n, 0), bestMany);
        for (int d = 0; d < top.length; d++) {
            check.due("DOOR " + d + " of " + n + " in " + text, x.cut(0, n, 10 + d), bestRow[d]);
        }
    }

    private static void tryRaises(int[] row, int d, int left) {
        if (d == row.length) {
            int many = 0;
            for (int k = 0; k < d; k++) {
                for (int p = 0; p < tall.length; p++) {
                    many += pass[k][p] && tall[p] <= top[k] + row[k] ? 1 : 0;
                }
            }
            if (many > bestMany) {
                bestMany = many;
                bestRow = row.clone();
            }
            return;
        }
        for (int raise = 0; raise <= left; raise++) {
            row[d] = raise;
            tryRaises(row, d + 1, left - raise);
        }
    }

    private static void love(HeightFine x, int n) {
        check.due("love of " + n + " in " + text, x.love(0, n, false), mostCouples(0, n));
    }

    private static int mostCouples(int used, int n) {
        int most = 0;
        for (int a = 0; a < tall.length; a++) {
            for (int b = a + 1; b < tall.length; b++) {
                boolean free = (used >> a & 1) == 0 && (used >> b & 1) == 0;
                if (free && Math.abs(tall[a] - tall[b]) <= n) {
                    most = Math.max(most, 1 + mostCouples(used | 1 << a | 1 << b, n));
                }
            }
        }
        return most;
    }

    private static void even(HeightFine x, int n) {
        bestInches = NONE;
        tryHeights(new int[tall.length], 0, n);
        check.due("even of " + n + " in " + text, x.love(0, n, true), bestInches);
    }

    private static void tryHeights(int[] height, int p, int n) {
        if (p == height.length) {
            int sum = 0;
            int moved = 0;
            for (int k = 0; k < p; k++) {
                sum += tall[k] - height[k];
                moved += Math.max(0, tall[k] - height[k]);
            }
            if (sum == 0 && (bestInches == NONE || moved < bestInches)) {
                bestInches = moved;
            }
            return;
        }
        for (int h = 1; h <= 13; h++) {
            boolean near = true;
            for (int k = 0; k < p; k++) {
                near &= Math.abs(h - height[k]) <= n;
            }
            if (near) {
                height[p] = h;
                tryHeights(height, p + 1, n);
            }
        }
    }

    private static long[] viewed;

    private static void views(HeightFine x) {
        viewed = new long[10];
        tryOrders(0, 0, 0);
        for (int k = 0; k < 10; k++) {
            check.due("views of " + k + " in " + text, x.views(0, k), viewed[k]);
        }
    }

    private static void tryOrders(int used, int highest, int seen) {
        if (used == (1 << tall.length) - 1) {
            viewed[seen]++;
            return;
        }
        for (int p = 0; p < tall.length; p++) {
            if ((used >> p & 1) == 0) {
                tryOrders(used | 1 << p, Math.max(highest, tall[p]), seen + (tall[p] > highest ? 1 : 0));
            }
        }
    }

    private static void hats(HeightFine x) {
        bestInches = Integer.MAX_VALUE;
        bestMany = 0;
        tryHats(new int[tall.length], 0, 0);
        check.due("hats in " + text, x.hats(0, false), bestInches);
        check.due("highest in " + text, x.hats(0, true), bestMany);
    }

    private static void tryHats(int[] height, int p, int inches) {
        if (p == tall.length) {
            int highest = Arrays.stream(height).max().orElse(0);
            if (inches == bestInches && highest != bestMany) {
                throw new IllegalStateException("the highest is not one alone in " + text);
            }
            if (inches < bestInches) {
                bestInches = inches;
                bestMany = highest;
            }
            return;
        }
        for (int hat = 0; hat < tall.length; hat++) {
            boolean alone = inches + hat <= bestInches;
            for (int k = 0; k < p; k++) {
                alone &= height[k] != tall[p] + hat;
            }
            if (alone) {
                height[p] = tall[p] + hat;
                tryHats(height, p + 1, inches + hat);
            }
        }
    }

    private static int sumOf(int[] row, int set) {
        int sum = 0;
        for (int k = 0; k < row.length; k++) {
            sum += (set >> k & 1) * row[k];
        }
        return sum;
    }

    private static int fewest(int[] row, int need) {
        for (int many = 0; many <= row.length; many++) {
            for (int set = 0; set < 1 << row.length; set++) {
                if (Integer.bitCount(set) == many && sumOf(row, set) >= need) {
                    return set;
                }
            }
        }
        return NONE;
    }

    private static void shoulders() {
        HeightFine x = Check.withBorough(text);
        int all = sumOf(tall, 255);
        for (int n = -1; n <= all + 1; n += 1 + random.nextInt(5)) {
            check.due("shoulders of " + n + " in " + text, x.shoulders(0, n), fewest(tall, n));
        }
    }

    private static void teams(HeightFine x) {
        int many = tall.length;
        int all = sumOf(tall, 255);
        int difference = NONE;
        int team = NONE;
        for (int set = 0; set < 1 << many && many > 1; set++) {
            int here = Integer.bitCount(set);
            int apart = Math.abs(sumOf(tall, set) - (all - sumOf(tall, set)));
            if ((set & 1) == 1 && Math.abs(here - (many - here)) < 2 && (team == NONE || apart < difference)) {
                team = set;
                difference = apart;
            }
        }
        check.due("teams in " + text, x.teams(0, false), difference);
        check.due("team in " + text, x.teams(0, true), team);
    }

    private static void assumed() {
        HeightFine x = Check.withBorough(text);
        int wisest = 0;
        int fewestWrong = 9;
        for (int h = 0; h <= 99; h++) {
            int wrong = 0;
            int low = 0;
            int lowPoor = 0;
            for (int p = 0; p < tall.length; p++) {
                wrong += tall[p] <= h && !poor[p] || tall[p] > h && poor[p] ? 1 : 0;
                low += tall[p] <= h ? 1 : 0;
                lowPoor += tall[p] <= h && poor[p] ? 1 : 0;
            }
            if (wrong < fewestWrong) {
                fewestWrong = wrong;
                wisest = h;
            }
            check.due("wrong of " + h + " in " + text, x.assumed(0, h, 0), wrong);
            int above = x.assumed(0, h, 1);
            int below = x.assumed(0, h, 2);
            check.due("the part of " + h + " in " + text, above * Math.max(1, low), lowPoor * below);
            for (int d = 2; d < 9; d++) {
                check.due("least terms of " + h, above % d == 0 && below % d == 0, false);
            }
        }
        check.due("wisest in " + text, x.assumed(0, 0, 3), wisest);
    }

    private static List<Integer> wayUp(int p) {
        List<Integer> way = new ArrayList<>();
        for (int at = p; at != NONE; at = parent[at]) {
            way.add(at);
        }
        return way;
    }

    private static void kin(HeightFine x) {
        for (int a = 0; a < tall.length; a++) {
            int who = 0;
            int inches = 0;
            int steps = 0;
            for (int b = 0; b < tall.length; b++) {
                if (wayUp(b).contains(a)) {
                    who |= 1 << b;
                    inches += tall[b];
                    steps = Math.max(steps, wayUp(b).indexOf(a));
                }
                List<Integer> common = wayUp(a);
                common.retainAll(wayUp(b));
                check.due("elder in " + text, x.elder(0, a, b), common.isEmpty() ? NONE : common.get(0));
            }
            check.due("family of " + a + " in " + text, x.family(0, a, 0), who);
            check.due("its inches in " + text, x.family(0, a, 1), inches);
            check.due("its steps in " + text, x.family(0, a, 2), steps);
            int n = 1 + random.nextInt(99);
            int sum = x.share(0, a, n, NONE);
            for (int b = 0; b < tall.length; b++) {
                int loss = x.share(0, a, n, b);
                sum += loss;
                check.due("1 inch is left in " + text, loss < tall[b], true);
                check.due("who is no forbear loses nothing", loss > 0 && !wayUp(a).contains(b), false);
            }
            check.due("all of " + n + " is shared in " + text, sum, n);
        }
    }

    private static long[][] did;

    private static void rows(HeightFine x) {
        StringBuilder s = new StringBuilder();
        int[] end = new int[tall.length];
        for (int p = 0; p < tall.length; p++) {
            if (random.nextBoolean()) {
                end[p] = Math.max(1, tall[p] - random.nextInt(5));
                s.append("tall ").append(p).append(' ').append(end[p]).append(';');
            }
        }
        Check.tell(x, 3, NONE, s.toString());
        for (int n = 0; n <= 3; n++) {
            did = new long[4][4];
            long all = tryDeeds(tall.clone(), end, new int[4], n);
            check.due("rows of " + n + " in " + text + s, x.rows(0, 0, n, NONE, 0), all);
            int ask = NONE;
            long least = Long.MAX_VALUE;
            for (int p = 0; p < tall.length; p++) {
                int sure = NONE;
                long greatest = 0;
                for (int k = 0; k <= n; k++) {
                    check.due("did " + k + " of " + n + " in " + text + s, x.rows(0, 0, n, p, k), did[p][k]);
                    greatest = Math.max(greatest, did[p][k]);
                    sure = all > 0 && did[p][k] == all ? k : sure;
                }
                check.due("sure of " + n + " in " + text + s, x.sure(0, 0, n, p), sure);
                if (all > 0 && greatest < least) {
                    least = greatest;
                    ask = p;
                }
            }
            check.due("ask of " + n + " in " + text + s, x.sure(0, 0, n, NONE), ask);
        }
    }

    private static long tryDeeds(int[] now, int[] end, int[] done, int left) {
        if (left == 0) {
            for (int p = 0; p < now.length; p++) {
                if (end[p] != 0 && now[p] != end[p]) {
                    return 0;
                }
            }
            for (int p = 0; p < now.length; p++) {
                did[p][done[p]]++;
            }
            return 1;
        }
        long ways = 0;
        for (int p = 0; p < now.length; p++) {
            for (int o = 0; o < 4; o++) {
                if (now[p] > fine[o]) {
                    now[p] -= fine[o];
                    done[p]++;
                    ways += tryDeeds(now, end, done, left - 1);
                    now[p] += fine[o];
                    done[p]--;
                }
            }
        }
        return ways;
    }

    private static void year() {
        int deeds = random.nextInt(30);
        StringBuilder s = new StringBuilder();
        int[][] deed = new int[deeds][];
        for (int k = 0; k < deeds; k++) {
            int p = Math.min(7, random.nextInt(Math.max(1, tall.length) + (random.nextInt(20) == 0 ? 1 : 0)));
            int q = (p + 1 + random.nextInt(7)) % 8;
            q = random.nextInt(4) > 0 && tall.length > 1 ? (p + 1) % tall.length : q;
            q = q == p ? p + 1 & 7 : q;
            int o = random.nextInt(4);
            int n = 1 + random.nextInt(3);
            int kind = random.nextInt(5);
            deed[k] = new int[] {kind, p, kind < 2 ? o : kind == 4 ? q : n, n};
            switch (kind) {
                case 0 -> s.append("fine ").append(p).append(' ').append(OFFENCE[o]);
                case 1 -> s.append("bail ").append(p).append(' ').append(OFFENCE[o]);
                case 2 -> s.append("give ").append(p).append(' ').append(n);
                case 3 -> s.append("stretch ").append(p).append(' ').append(n);
                default -> s.append("gift ").append(p).append(' ').append(q).append(' ').append(n);
            }
            s.append(';');
        }
        int[] now = Arrays.copyOf(tall, tall.length + 1);
        int done = 0;
        state(s.toString(), now, 0);
        while (done < deeds && possible(now, deed[done])) {
            done++;
            state(s.toString(), now, done);
        }
        HeightFine x = withYear(s.toString());
        check.due("stop of " + s + " in " + text, x.stop(0, 0), done);
        check.due("no STATE behind stop", x.state(0, 0, done + 1, 0), -2);
    }

    /** What each loses or gets by a DEED is written down first, and looked at as a whole. */
    private static boolean possible(int[] now, int[] deed) {
        int many = tall.length;
        int p = deed[1];
        if (p >= many) {
            return false;
        }
        int[] change = new int[many + 1];
        switch (deed[0]) {
            case 0 -> {
                change[p] = -fine[deed[2]];
                change[many] = fine[deed[2]];
            }
            case 1 -> {
                if (parent[p] == NONE) {
                    return false;
                }
                change[p] = -(fine[deed[2]] / 2);
                change[many] = fine[deed[2]];
                change[parent[p]] = -fine[deed[2]] - change[p];
            }
            case 2 -> {
                if (!poor[p]) {
                    return false;
                }
                change[p] = deed[2];
                change[many] = -deed[2];
            }
            case 3 -> {
                for (int k = 0; k < deed[2]; k++) {
                    change[p] += now[p] + change[p] < tall[p] ? 1 : 0;
                }
            }
            default -> {
                if (deed[2] >= many) {
                    return false;
                }
                change[p] = -deed[3];
                change[deed[2]] = deed[3];
            }
        }
        for (int k = 0; k <= many; k++) {
            int then = now[k] + change[k];
            if (k < many ? then < 1 || then > 99 : then < 0) {
                return false;
            }
        }
        for (int k = 0; k <= many; k++) {
            now[k] += change[k];
        }
        return true;
    }

    /** A new object each time, as one is good for 512 calls alone. */
    private static HeightFine withYear(String s) {
        HeightFine x = Check.withBorough(text);
        check.due("a YEAR", Check.tell(x, 1, NONE, s), 0);
        return x;
    }

    private static void state(String s, int[] now, int n) {
        HeightFine x = withYear(s);
        int many = tall.length;
        String call = "behind " + n + " of " + s + " in " + text;
        check.due("PRESS " + call, x.state(0, 0, n, 0), now[many]);
        int bowed = 0;
        int raised = 0;
        int up = 0;
        List<Integer> rank = new ArrayList<>();
        for (int p = 0; p < many; p++) {
            check.due("inches " + call, x.state(0, 0, n, 10 + p), now[p]);
            bowed |= now[p] < tall[p] ? 1 << p : 0;
            raised |= now[p] > tall[p] ? 1 << p : 0;
            for (int q = 0; q < many; q++) {
                up += poor[p] && !poor[q] && now[p] > now[q] ? 1 : 0;
            }
            rank.add(p);
        }
        rank.sort((a, b) -> now[a] != now[b] ? now[b] - now[a] : a - b);
        check.due("BOWED " + call, x.state(0, 0, n, 1), bowed);
        check.due("RAISED " + call, x.state(0, 0, n, 2), raised);
        check.due("UP " + call, x.state(0, 0, n, 3), up);
        for (int k = 0; k < many; k++) {
            check.due("RANK " + call, x.state(0, 0, n, 20 + k), rank.get(k));
        }
        int[] over = now.clone();
        int sum = now[many];
        for (int p = 0; p < many; p++) {
            over[p] -= tall[p];
            sum += over[p];
        }
        check.due("settled " + call, x.settled(0, 0, n), sum == 0 ? gifts(over, 0) : NONE);
    }

    /** Whoever comes first is settled with one of those on the other side. */
    private static int gifts(int[] over, int from) {
        int at = from;
        while (at < over.length && over[at] == 0) {
            at++;
        }
        if (at >= over.length) {
            return 0;
        }
        int fewest = Integer.MAX_VALUE;
        for (int k = at + 1; k < over.length; k++) {
            if (over[k] > 0 != over[at] > 0 && over[k] != 0) {
                over[k] += over[at];
                fewest = Math.min(fewest, 1 + gifts(over, at + 1));
                over[k] -= over[at];
            }
        }
        return fewest;
    }

    private static void ledger() {
        int[] got = new int[8];
        StringBuilder s = new StringBuilder();
        int owed = random.nextInt(20);
        s.append("owed ").append(owed).append(';');
        int all = 0;
        for (int k = 0; k < 8; k++) {
            got[k] = random.nextBoolean() ? random.nextInt(9) : 0;
            s.append("got ").append(k).append(' ').append(got[k]).append(';');
            all += got[k];
        }
        HeightFine x = new HeightFine();
        Check.tell(x, 2, NONE, s.toString());
        check.due("BACK of " + s, x.ledger(0, 1), fewest(got, owed));
        firstSet = NONE;
        check.due("EXACT of " + s, x.ledger(0, 2), trySets(got, 0, 0, owed));
        check.due("first set of " + s, x.ledger(0, 3), firstSet);
        int given = 0;
        for (int k = 0; k < 8; k++) {
            int back = x.ledger(0, 20 + k);
            given += back;
            for (int j = 0; j < 8 && all >= owed && all > 0; j++) {
                int mine = got[k] * owed - back * all;
                int other = got[j] * owed - x.ledger(0, 20 + j) * all;
                check.due("cut, or one more of " + s, mine > -all && mine < all, true);
                boolean passedOver = mine >= 0 && other < 0 && (mine > other + all || mine == other + all && k < j);
                check.due("the greatest remainders of " + s, passedOver, false);
            }
        }
        check.due("FAIR in all of " + s, given, all < owed ? 0 : owed);
    }

    private static int firstSet;

    /** With the lesser numbers first, and with them before without. */
    private static int trySets(int[] got, int k, int set, int left) {
        if (k == 8) {
            if (left == 0 && firstSet == NONE) {
                firstSet = set;
            }
            return left == 0 ? 1 : 0;
        }
        int ways = 0;
        if (got[k] > 0) {
            ways = trySets(got, k + 1, set | 1 << k, left - got[k]);
        }
        return ways + trySets(got, k + 1, set, left);
    }
}
