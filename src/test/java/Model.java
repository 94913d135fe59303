import java.nio.ByteBuffer;
import java.nio.charset.StandardCharsets;
import java.util.ArrayList;
import java.util.Arrays;
import java.util.HashMap;
import java.util.List;
import java.util.Map;

/**
 * The document told a second time, with the same face, as plainly as may be and by other ways than the
 * class goes: what ModelTest compares the class with. TOO_MANY: there is too much to try.
 */
final class Model {
    static final int NONE = -1;
    static final int NO_SUCH = -2;
    static final long TOO_MANY = Long.MIN_VALUE;
    private static final int MOST_TRIED = 20_000;

    /** A BOROUGH; nothing in it is changed once it has been told. */
    static final class Borough {
        final List<Integer> inches = new ArrayList<>();
        final List<Integer> tops = new ArrayList<>();
        final List<Integer> reaches = new ArrayList<>();
        final int[] parent = new int[8];
        final int[] fine = {6, 3, 1, 2};
        final int[][] wish = new int[8][4];
        final boolean[] poor = new boolean[8];
        final boolean[][] pass = new boolean[6][8];
        int caught = 5;
        long[] viewed;

        Borough(List<ModelText.Line> lines) {
            Arrays.fill(parent, NONE);
            for (ModelText.Line line : lines) {
                int a = line.value(0);
                int b = line.value(1);
                switch (line.word) {
                    case "person" -> inches.add(a);
                    case "poor" -> poor[a] = true;
                    case "caught" -> caught = a;
                    case "door" -> tops.add(a);
                    case "work" -> reaches.add(a);
                    case "child" -> parent[a] = b;
                    case "pass" -> pass[b][a] = true;
                    case "costs" -> fine[a] = b;
                    default -> wish[a][b] = line.value(2);
                }
            }
        }

        int people() {
            return inches.size();
        }

        boolean has(int p) {
            return p >= 0 && p < people();
        }

        /** He, his PARENT, and so on. */
        List<Integer> wayUp(int p) {
            List<Integer> way = new ArrayList<>();
            for (int at = p; at != NONE; at = parent[at]) {
                way.add(at);
            }
            return way;
        }
    }

    private static final List<String> KINDS = List.of("fine", "bail", "give", "stretch", "gift");

    private byte[] tape = {};
    private int fault;
    private int place = NONE;
    private List<Borough> boroughs = new ArrayList<>();
    private List<List<int[]>> years = new ArrayList<>();
    private List<int[]> ledgers = new ArrayList<>();
    private List<List<int[]>> sights = new ArrayList<>();
    private final Model[] images = new Model[3];

    private static <T> T at(List<T> list, int k) {
        return k >= 0 && k < list.size() ? list.get(k) : null;
    }

    int feed(int a, int b, int c, int d, int e) {
        if (tape.length + 20 > 600) {
            return NONE;
        }
        tape = ByteBuffer.allocate(tape.length + 20).put(tape).putInt(a).putInt(b).putInt(c).putInt(d).putInt(e).array();
        return tape.length;
    }

    int end(int n) {
        if (n < 0 || n > tape.length) {
            return NONE;
        }
        tape = Arrays.copyOf(tape, n);
        return n;
    }

    int text(int sort, int at) {
        String taken = new String(tape, StandardCharsets.ISO_8859_1);
        tape = new byte[0];
        fault = 0;
        place = NONE;
        int many = count(sort);
        if (many == NO_SUCH || (at == NONE ? many == 2 : at < 0 || at >= many)) {
            return NO_SUCH;
        }
        ModelText text = new ModelText(sort, taken);
        fault = text.fault;
        place = text.place;
        if (fault != 0) {
            return NONE;
        }
        int number = at == NONE ? many : at;
        switch (sort) {
            case 0 -> put(boroughs, number, new Borough(text.lines));
            case 1 -> put(years, number, deedsOf(text.lines));
            case 2 -> put(ledgers, number, ledgerOf(text.lines));
            default -> put(sights, number, factsOf(text.lines));
        }
        return number;
    }

    private static <T> void put(List<T> list, int number, T one) {
        if (number == list.size()) {
            list.add(one);
        } else {
            list.set(number, one);
        }
    }

    private static List<int[]> deedsOf(List<ModelText.Line> lines) {
        List<int[]> deeds = new ArrayList<>();
        for (ModelText.Line line : lines) {
            deeds.add(new int[] {KINDS.indexOf(line.word), line.value(0), line.value(1), line.value(2)});
        }
        return deeds;
    }

    /** GOT of each of 8, OWED behind them. */
    private static int[] ledgerOf(List<ModelText.Line> lines) {
        int[] ledger = new int[9];
        for (ModelText.Line line : lines) {
            boolean got = line.word.equals("got");
            ledger[got ? line.value(0) : 8] = line.value(got ? 1 : 0);
        }
        return ledger;
    }

    private static List<int[]> factsOf(List<ModelText.Line> lines) {
        List<int[]> facts = new ArrayList<>();
        for (ModelText.Line line : lines) {
            facts.add(new int[] {line.value(0), line.value(1)});
        }
        return facts;
    }

    int fault(int what) {
        return what == 0 ? fault : what == 1 ? place : NONE;
    }

    int borough(int borough, int what) {
        Map<Integer, Integer> answers = new HashMap<>();
        Borough b = at(boroughs, borough);
        if (b != null) {
            int poor = 0;
            for (int p = 0; p < b.people(); p++) {
                answers.put(10 + p, b.inches.get(p));
                answers.put(20 + p, b.parent[p]);
                poor += b.poor[p] ? 1 << p : 0;
                for (int o = 0; o < 4; o++) {
                    answers.put(70 + 4 * p + o, b.wish[p][o]);
                }
            }
            for (int o = 0; o < 4; o++) {
                answers.put(30 + o, b.fine[o]);
            }
            for (int d = 0; d < b.tops.size(); d++) {
                answers.put(40 + d, b.tops.get(d));
                answers.put(50 + d, bits(b.pass[d]));
            }
            for (int w = 0; w < b.reaches.size(); w++) {
                answers.put(60 + w, b.reaches.get(w));
            }
            answers.putAll(Map.of(0, b.people(), 1, poor, 2, b.caught, 3, b.tops.size(), 4, b.reaches.size()));
        }
        return answers.getOrDefault(what, NO_SUCH);
    }

    private static int bits(boolean[] who) {
        int bits = 0;
        for (int k = 0; k < who.length; k++) {
            bits += who[k] ? 1 << k : 0;
        }
        return bits;
    }

    private static int entry(List<int[]> rows, int k, int what) {
        if (rows != null && k == NONE && what == 0) {
            return rows.size();
        }
        int[] row = rows == null ? null : at(rows, k);
        return row == null || what < 0 || what >= row.length ? NO_SUCH : row[what];
    }

    int deed(int year, int k, int what) {
        return entry(at(years, year), k, what);
    }

    /** The heights of all and what is in the PRESS behind a DEED, or null if it can't be. */
    private static int[] after(Borough b, int[] now, int[] deed) {
        int many = b.people();
        int p = deed[1];
        if (!b.has(p)) {
            return null;
        }
        int[] then = now.clone();
        if (deed[0] == 0) {
            then[p] -= b.fine[deed[2]];
            then[many] += b.fine[deed[2]];
        } else if (deed[0] == 1) {
            if (b.parent[p] == NONE) {
                return null;
            }
            int half = (int) Math.ceil(b.fine[deed[2]] / 2.0);
            then[b.parent[p]] -= half;
            then[p] -= b.fine[deed[2]] - half;
            then[many] += b.fine[deed[2]];
        } else if (deed[0] == 2) {
            if (!b.poor[p]) {
                return null;
            }
            then[p] += deed[2];
            then[many] -= deed[2];
        } else if (deed[0] == 3) {
            if (now[p] < b.inches.get(p)) {
                then[p] = Math.min(b.inches.get(p), now[p] + deed[2]);
            }
        } else {
            if (!b.has(deed[2]) || deed[2] == p) {
                return null;
            }
            then[p] -= deed[3];
            then[deed[2]] += deed[3];
        }
        for (int k = 0; k < many; k++) {
            if (then[k] < 1 || then[k] > 99) {
                return null;
            }
        }
        return then[many] < 0 ? null : then;
    }

    private static int[] atFirst(Borough b) {
        int[] first = new int[b.people() + 1];
        for (int p = 0; p < b.people(); p++) {
            first[p] = b.inches.get(p);
        }
        return first;
    }

    /** Every STATE of a YEAR; null if there is none such of either. */
    private List<int[]> states(int borough, int year) {
        Borough b = at(boroughs, borough);
        List<int[]> deeds = at(years, year);
        if (b == null || deeds == null) {
            return null;
        }
        List<int[]> states = new ArrayList<>();
        int[] now = atFirst(b);
        for (int k = 0; now != null; k++) {
            states.add(now);
            now = k < deeds.size() ? after(b, now, deeds.get(k)) : null;
        }
        return states;
    }

    int stop(int borough, int year) {
        List<int[]> states = states(borough, year);
        return states == null ? NONE : states.size() - 1;
    }

    int state(int borough, int year, int n, int what) {
        List<int[]> states = states(borough, year);
        int[] now = states == null ? null : at(states, n);
        return now == null ? NO_SUCH : look(boroughs.get(borough), now, what);
    }

    private static int look(Borough b, int[] now, int what) {
        int many = b.people();
        List<Integer> rank = new ArrayList<>();
        int bowed = 0;
        int raised = 0;
        int up = 0;
        for (int p = 0; p < many; p++) {
            rank.add(p);
            bowed |= now[p] < b.inches.get(p) ? 1 << p : 0;
            raised |= now[p] > b.inches.get(p) ? 1 << p : 0;
            for (int q = 0; q < many; q++) {
                up += b.poor[p] && !b.poor[q] && now[p] > now[q] ? 1 : 0;
            }
        }
        rank.sort((p, q) -> now[p] == now[q] ? p - q : now[q] - now[p]);
        if (what >= 10 && what < 10 + many) {
            return now[what - 10];
        }
        if (what >= 20 && what < 20 + many) {
            return rank.get(what - 20);
        }
        return what == 0 ? now[many] : what == 1 ? bowed : what == 2 ? raised : what == 3 ? up : NO_SUCH;
    }

    private static boolean inches(int n) {
        return n >= 0 && n <= 99;
    }

    /** Rows of who does each WORK come in their order, so that of like ones the first stays. */
    private static int[] bestWorks(Borough b, int n, int[] row, int w, int[] best) {
        if (w == row.length) {
            int many = 0;
            int spent = 0;
            for (int k = 0; k < w; k++) {
                many += row[k] == 8 ? 0 : 1;
                spent += row[k] == 8 ? 0 : Math.max(0, b.reaches.get(k) - b.inches.get(row[k]));
            }
            if (spent > n || best != null && (best[0] > many || best[0] == many && best[1] <= spent)) {
                return best;
            }
            int[] found = new int[2 + w];
            found[0] = many;
            found[1] = spent;
            System.arraycopy(row, 0, found, 2, w);
            return found;
        }
        int[] found = best;
        for (int p = 0; p <= 8; p++) {
            boolean free = p == 8 || b.has(p);
            for (int k = 0; k < w; k++) {
                free &= p == 8 || row[k] != p;
            }
            if (free) {
                row[w] = p;
                found = bestWorks(b, n, row, w + 1, found);
            }
        }
        return found;
    }

    int reached(int borough, int n, int what) {
        Borough b = at(boroughs, borough);
        if (b == null || !inches(n)) {
            return NONE;
        }
        int works = b.reaches.size();
        boolean ofWork = what >= 10 && what < 10 + works;
        if (!ofWork && what != 0 && what != 1) {
            return NONE;
        }
        return bestWorks(b, n, new int[works], 0, null)[ofWork ? what - 8 : what];
    }

    /** The rows of raises that let one more pass; they come in their order, the most couples ahead. */
    private static int[] bestRaises(Borough b, int left, int[] row, int d, int[] best) {
        if (d == b.tops.size()) {
            int many = 0;
            for (int k = 0; k < d; k++) {
                for (int p = 0; p < b.people(); p++) {
                    many += b.pass[k][p] && b.tops.get(k) + row[1 + k] >= b.inches.get(p) ? 1 : 0;
                }
            }
            if (best != null && best[0] >= many) {
                return best;
            }
            int[] found = row.clone();
            found[0] = many;
            return found;
        }
        int[] found = best;
        for (int raise = 0; raise <= left; raise++) {
            if (raise == 0 || b.inches.contains(b.tops.get(d) + raise)) {
                row[1 + d] = raise;
                found = bestRaises(b, left - raise, row, d + 1, found);
            }
        }
        return found;
    }

    int cut(int borough, int n, int what) {
        Borough b = at(boroughs, borough);
        if (b == null || !inches(n)) {
            return NONE;
        }
        boolean ofDoor = what >= 10 && what < 10 + b.tops.size();
        if (!ofDoor && what != 0) {
            return NONE;
        }
        return bestRaises(b, n, new int[1 + b.tops.size()], 0, null)[ofDoor ? what - 9 : 0];
    }

    private static int mostCouples(Borough b, int n, int from, int used) {
        if (from >= b.people()) {
            return 0;
        }
        int most = mostCouples(b, n, from + 1, used);
        for (int q = from + 1; q < b.people() && (used >> from & 1) == 0; q++) {
            if ((used >> q & 1) == 0 && Math.abs(b.inches.get(from) - b.inches.get(q)) <= n) {
                most = Math.max(most, 1 + mostCouples(b, n, from + 1, used | 1 << q));
            }
        }
        return most;
    }

    /** Inch by inch, from a tallest to a least tall one. */
    private static int evened(Borough b, int n) {
        int[] tall = Arrays.copyOf(atFirst(b), b.people());
        for (int moved = 0; moved < 1000; moved++) {
            Arrays.sort(tall);
            int apart = tall.length == 0 ? 0 : tall[tall.length - 1] - tall[0];
            if (apart <= n) {
                return moved;
            }
            if (apart == 1) {
                return NONE;
            }
            tall[tall.length - 1]--;
            tall[0]++;
        }
        throw new IllegalStateException("more than all inches");
    }

    int love(int borough, int n, boolean even) {
        Borough b = at(boroughs, borough);
        if (b == null || !inches(n)) {
            return NONE;
        }
        return even ? evened(b, n) : mostCouples(b, n, 0, 0);
    }

    /** Who dares (bits), the HARM, what is TAKEN. */
    private static int[] daring(Borough b, int offence, int f) {
        int[] all = new int[3];
        for (int p = 0; p < b.people(); p++) {
            if (b.wish[p][offence] * 10 > f * b.caught) {
                all[0] |= 1 << p;
                all[1] += b.wish[p][offence];
                all[2] += f * b.caught;
            }
        }
        return all;
    }

    int dares(int borough, int offence, int f, int what) {
        Borough b = at(boroughs, borough);
        if (b == null || offence < 0 || offence > 3) {
            return NO_SUCH;
        }
        if (what < 3) {
            return what < 0 || f < 1 || f > 9 ? NO_SUCH : daring(b, offence, f)[what];
        }
        int deters = NONE;
        int best = 9;
        for (int fine = 9; fine > 0; fine--) {
            deters = daring(b, offence, fine)[0] == 0 ? fine : deters;
            best = daring(b, offence, fine)[2] >= daring(b, offence, best)[2] ? fine : best;
        }
        return what == 3 ? deters : what == 4 ? best : NO_SUCH;
    }

    /** What comes to a PERSON and is not lost by him comes to his PARENT; how much is lost in the end. */
    private static int shared(Borough b, int person, int comes, int[] losses) {
        int due = b.parent[person] == NONE ? comes : comes / 2;
        losses[person] = due < b.inches.get(person) ? due : b.inches.get(person) - 1;
        int rest = comes - losses[person];
        return b.parent[person] == NONE ? rest : shared(b, b.parent[person], rest, losses);
    }

    int share(int borough, int person, int n, int who) {
        Borough b = at(boroughs, borough);
        if (b == null || !b.has(person) || n < 1 || n > 99 || who != NONE && !b.has(who)) {
            return NONE;
        }
        int[] losses = new int[8];
        int lost = shared(b, person, n, losses);
        return who == NONE ? lost : losses[who];
    }

    int elder(int borough, int a, int c) {
        Borough b = at(boroughs, borough);
        if (b == null || !b.has(a) || !b.has(c)) {
            return NONE;
        }
        int elder = NONE;
        int fewest = 100;
        for (int p = 0; p < b.people(); p++) {
            int up = b.wayUp(a).indexOf(p);
            int other = b.wayUp(c).indexOf(p);
            if (up >= 0 && other >= 0 && up + other < fewest) {
                fewest = up + other;
                elder = p;
            }
        }
        return elder;
    }

    private static int sum(List<Integer> weights, int set) {
        int sum = 0;
        for (int k = 0; k < weights.size(); k++) {
            sum += (set >> k & 1) == 0 ? 0 : weights.get(k);
        }
        return sum;
    }

    private static int fewest(List<Integer> weights, int need) {
        int best = NONE;
        for (int set = (1 << weights.size()) - 1; set >= 0; set--) {
            if (sum(weights, set) >= need && (best == NONE || Integer.bitCount(set) <= Integer.bitCount(best))) {
                best = set;
            }
        }
        return best;
    }

    /** The sets that come to just so much, those with the lesser numbers ahead. */
    private static List<Integer> exact(int[] ledger, int k, int left) {
        List<Integer> sets = new ArrayList<>();
        if (k == 8) {
            if (left == 0) {
                sets.add(0);
            }
            return sets;
        }
        if (ledger[k] > 0) {
            for (int set : exact(ledger, k + 1, left - ledger[k])) {
                sets.add(set | 1 << k);
            }
        }
        sets.addAll(exact(ledger, k + 1, left));
        return sets;
    }

    private static int[] fair(int[] ledger) {
        int[] back = new int[8];
        int all = Arrays.stream(ledger, 0, 8).sum();
        int owed = ledger[8];
        if (all == 0 || all < owed) {
            return back;
        }
        List<Integer> order = new ArrayList<>();
        for (int k = 0; k < 8; k++) {
            order.add(k);
            back[k] = ledger[k] * owed / all;
        }
        order.sort((j, k) -> {
            int apart = ledger[k] * owed % all - ledger[j] * owed % all;
            return apart == 0 ? j - k : apart;
        });
        for (int k = 0; Arrays.stream(back).sum() < owed; k++) {
            back[order.get(k)]++;
        }
        return back;
    }

    int ledger(int ledger, int what) {
        int[] of = at(ledgers, ledger);
        if (of == null) {
            return NO_SUCH;
        }
        if (what >= 10 && what < 18) {
            return of[what - 10];
        }
        if (what >= 20 && what < 28) {
            return fair(of)[what - 20];
        }
        List<Integer> got = new ArrayList<>();
        for (int k = 0; k < 8; k++) {
            got.add(of[k]);
        }
        List<Integer> ways = exact(of, 0, of[8]);
        return switch (what) {
            case 0 -> of[8];
            case 1 -> fewest(got, of[8]);
            case 2 -> ways.size();
            case 3 -> ways.isEmpty() ? NONE : ways.get(0);
            default -> NO_SUCH;
        };
    }

    int fact(int sight, int k, int what) {
        return entry(at(sights, sight), k, what);
    }

    /** DID of a PERSON of each k, deed by deed through all heights that may come; null: too many. */
    private static long[] did(Borough b, List<int[]> facts, int n, int person) {
        Map<List<Integer>, Long> ways = new HashMap<>();
        List<Integer> first = new ArrayList<>(b.inches);
        first.add(0);
        ways.put(first, 1L);
        for (int step = 0; step < n; step++) {
            Map<List<Integer>, Long> next = new HashMap<>();
            for (Map.Entry<List<Integer>, Long> one : ways.entrySet()) {
                for (int p = 0; p < b.people(); p++) {
                    for (int fine : b.fine) {
                        List<Integer> then = new ArrayList<>(one.getKey());
                        then.set(p, then.get(p) - fine);
                        then.set(b.people(), then.get(b.people()) + (p == person ? 1 : 0));
                        if (mayEnd(then, facts) && then.get(p) >= 1) {
                            next.merge(then, one.getValue(), Long::sum);
                        }
                    }
                }
                if (next.size() > MOST_TRIED) {
                    return null;
                }
            }
            ways = next;
        }
        long[] did = new long[9];
        ways.forEach((then, many) -> {
            if (facts.stream().allMatch(fact -> then.get(fact[0]) == fact[1])) {
                did[then.get(b.people())] += many;
            }
        });
        return did;
    }

    private static boolean mayEnd(List<Integer> then, List<int[]> facts) {
        return facts.stream().allMatch(fact -> then.get(fact[0]) >= fact[1]);
    }

    private boolean guessable(int borough, int sight, int n, int person) {
        Borough b = at(boroughs, borough);
        List<int[]> facts = at(sights, sight);
        return b != null && facts != null && n >= 0 && n <= 8 && (person == NONE || b.has(person))
                && facts.stream().allMatch(fact -> b.has(fact[0]));
    }

    long rows(int borough, int sight, int n, int person, int k) {
        if (!guessable(borough, sight, n, person) || k < 0 || k > n) {
            return NONE;
        }
        long[] did = did(boroughs.get(borough), sights.get(sight), n, person);
        return did == null ? TOO_MANY : person == NONE ? Arrays.stream(did).sum() : did[k];
    }

    long sure(int borough, int sight, int n, int person) {
        if (!guessable(borough, sight, n, person)) {
            return NONE;
        }
        Borough b = boroughs.get(borough);
        int ask = NONE;
        long least = Long.MAX_VALUE;
        for (int p = 0; p < b.people(); p++) {
            long[] did = did(b, sights.get(sight), n, p);
            if (did == null) {
                return TOO_MANY;
            }
            long all = Arrays.stream(did).sum();
            long greatest = Arrays.stream(did).max().orElse(0);
            if (p == person) {
                int k = 0;
                while (k < n && did[k] != all) {
                    k++;
                }
                return all == 0 || did[k] != all ? NONE : k;
            }
            if (all > 0 && greatest < least) {
                least = greatest;
                ask = p;
            }
        }
        return ask;
    }

    private static int[] draw(Borough b, int seed, int n) {
        long[] x = {seed & 0xffffffffL};
        int[] now = atFirst(b);
        for (int k = 0; k < n; k++) {
            int p = below(x, b.people());
            int kind = below(x, 8);
            int[] deed = switch (kind) {
                case 4 -> new int[] {1, p, below(x, 4), NONE};
                case 5 -> new int[] {2, p, 1 + below(x, 5), NONE};
                case 6 -> new int[] {3, p, 1 + below(x, 5), NONE};
                case 7 -> new int[] {4, p, below(x, b.people()), 1 + below(x, 5)};
                default -> new int[] {0, p, kind, NONE};
            };
            int[] then = after(b, now, deed);
            now = then == null ? now : then;
        }
        return now;
    }

    private static int below(long[] x, int n) {
        x[0] = (x[0] * 1103515245L + 12345L) & 0xffffffffL;
        return (int) ((x[0] >> 16) % n);
    }

    int drawn(int borough, int seed, int n, int what) {
        Borough b = at(boroughs, borough);
        if (b == null || b.people() == 0 || n < 0 || n > 60) {
            return NO_SUCH;
        }
        return look(b, draw(b, seed, n), what);
    }

    int family(int borough, int person, int what) {
        Borough b = at(boroughs, borough);
        if (b == null || !b.has(person)) {
            return NONE;
        }
        int who = 0;
        int steps = 0;
        for (int p = 0; p < b.people(); p++) {
            int up = b.wayUp(p).indexOf(person);
            who |= up < 0 ? 0 : 1 << p;
            steps = Math.max(steps, up);
        }
        return what == 0 ? who : what == 1 ? sum(b.inches, who) : what == 2 ? steps : NONE;
    }

    private static void order(Borough b, int used, int highest, int seen) {
        if (Integer.bitCount(used) == b.people()) {
            b.viewed[seen]++;
        }
        for (int p = 0; p < b.people(); p++) {
            if ((used >> p & 1) == 0) {
                int tall = b.inches.get(p);
                order(b, used | 1 << p, Math.max(tall, highest), tall > highest ? seen + 1 : seen);
            }
        }
    }

    long views(int borough, int k) {
        Borough b = at(boroughs, borough);
        if (b == null) {
            return NONE;
        }
        if (b.viewed == null) {
            b.viewed = new long[9];
            order(b, 0, 0, 0);
        }
        return k < 0 || k > 8 ? 0 : b.viewed[k];
    }

    int shoulders(int borough, int n) {
        Borough b = at(boroughs, borough);
        return b == null ? NONE : fewest(b.inches, n);
    }

    /** Whoever comes takes the least height that is free: how high all are does not hang on their order. */
    int hats(int borough, boolean highest) {
        Borough b = at(boroughs, borough);
        if (b == null) {
            return NONE;
        }
        List<Integer> taken = new ArrayList<>();
        int hats = 0;
        for (int inches : b.inches) {
            int height = inches;
            while (taken.contains(height)) {
                height++;
            }
            taken.add(height);
            hats += height - inches;
        }
        return highest ? taken.stream().max(Integer::compare).orElse(0) : hats;
    }

    int teams(int borough, boolean bits) {
        Borough b = at(boroughs, borough);
        if (b == null || b.people() < 2) {
            return NONE;
        }
        int least = Integer.MAX_VALUE;
        int team = NONE;
        int all = (1 << b.people()) - 1;
        for (int set = 0; set <= all; set++) {
            int other = all ^ set;
            int apart = Math.abs(sum(b.inches, set) - sum(b.inches, other));
            if ((set & 1) != 0 && Math.abs(Integer.bitCount(set) - Integer.bitCount(other)) <= 1 && apart < least) {
                least = apart;
                team = set;
            }
        }
        return bits ? team : least;
    }

    /** Of how many it is wrong, how many so low are POOR, how many are so low. */
    private static int[] assumption(Borough b, int h) {
        int[] all = new int[3];
        for (int p = 0; p < b.people(); p++) {
            boolean low = b.inches.get(p) <= h;
            all[0] += low == b.poor[p] ? 0 : 1;
            all[1] += low && b.poor[p] ? 1 : 0;
            all[2] += low ? 1 : 0;
        }
        return all;
    }

    int assumed(int borough, int h, int what) {
        Borough b = at(boroughs, borough);
        if (b == null || what != 3 && !inches(h)) {
            return NONE;
        }
        if (what == 3) {
            int wisest = 99;
            for (int k = 99; k >= 0; k--) {
                wisest = assumption(b, k)[0] <= assumption(b, wisest)[0] ? k : wisest;
            }
            return wisest;
        }
        int[] all = assumption(b, h);
        int divisor = 1;
        for (int d = 1; d <= 8; d++) {
            divisor = all[1] % d == 0 && all[2] % d == 0 ? d : divisor;
        }
        int below = all[1] == 0 ? 1 : all[2] / divisor;
        return what == 0 ? all[0] : what == 1 ? all[1] / divisor : what == 2 ? below : NONE;
    }

    /** Puts each, one by one, into a group of those before, or into a new one: the most groups that are even. */
    private static int mostGroups(List<Integer> over, int k, List<Integer> sums) {
        if (k == over.size()) {
            return sums.stream().allMatch(sum -> sum == 0) ? sums.size() : -100;
        }
        int most = -100;
        for (int g = 0; g <= sums.size(); g++) {
            List<Integer> then = new ArrayList<>(sums);
            if (g == sums.size()) {
                then.add(over.get(k));
            } else {
                then.set(g, then.get(g) + over.get(k));
            }
            most = Math.max(most, mostGroups(over, k + 1, then));
        }
        return most;
    }

    int settled(int borough, int year, int n) {
        List<int[]> states = states(borough, year);
        int[] now = states == null ? null : at(states, n);
        if (now == null) {
            return NONE;
        }
        int[] first = atFirst(boroughs.get(borough));
        List<Integer> over = new ArrayList<>();
        for (int k = 0; k < now.length; k++) {
            if (now[k] != first[k]) {
                over.add(now[k] - first[k]);
            }
        }
        if (over.stream().mapToInt(one -> one).sum() != 0) {
            return NONE;
        }
        return over.size() - mostGroups(over, 0, new ArrayList<>());
    }

    int count(int sort) {
        return switch (sort) {
            case 0 -> boroughs.size();
            case 1 -> years.size();
            case 2 -> ledgers.size();
            case 3 -> sights.size();
            default -> NO_SUCH;
        };
    }

    private void take(Model from) {
        tape = from.tape;
        fault = from.fault;
        place = from.place;
        boroughs = new ArrayList<>(from.boroughs);
        years = new ArrayList<>(from.years);
        ledgers = new ArrayList<>(from.ledgers);
        sights = new ArrayList<>(from.sights);
    }

    boolean image(int k) {
        if (k < 0 || k > 2) {
            return false;
        }
        images[k] = new Model();
        images[k].take(this);
        return true;
    }

    boolean again(int k) {
        if (k < 0 || k > 2 || images[k] == null) {
            return false;
        }
        take(images[k]);
        return true;
    }
}
