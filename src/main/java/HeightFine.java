import java.util.Arrays;

/**
 * Fines that are paid in height. What each call answers is said, promise by promise, in
 * ../shared/DOC.md, whose words (BOROUGH, YEAR, PRESS ..) the names here follow.
 */
public final class HeightFine {

    public static final int NONE = -1;

    private static final int NO_SUCH = -2;

    private static final int MOST_TAPE = 600;
    private static final int FED = 20;
    private static final int MOST_TEXTS = 2;
    private static final int MOST_IMAGES = 3;
    private static final int MOST_PEOPLE = 8;
    private static final int MOST_DOORS = 6;
    private static final int MOST_WORKS = 6;
    private static final int MOST_DEEDS = 40;
    private static final int MOST_FACTS = 10;
    private static final int MOST_INCHES = 99;
    private static final int MOST_FINE = 9;
    private static final int MOST_GUESSED = 8;
    private static final int MOST_DRAWN = 60;
    private static final int OFFENCES = 4;
    private static final int SETS = 256;

    private static final int BOROUGHS = 0;
    private static final int YEARS = 1;
    private static final int LEDGERS = 2;
    private static final int SIGHTS = 3;
    private static final int SORTS = 4;

    private static final int[] FIRST_FINES = {6, 3, 1, 2};
    private static final int FIRST_CAUGHT = 5;

    private static final int[] FACTORIAL = {1, 1, 2, 6, 24, 120, 720, 5040, 40320};

    // The words with which a line begins, in the order of the rows of SLOT, LEAST and GREATEST.
    private static final int PERSON = 0;
    private static final int POOR = 1;
    private static final int CAUGHT = 2;
    private static final int DOOR = 3;
    private static final int WORK = 4;
    private static final int CHILD = 5;
    private static final int PASS = 6;
    private static final int COSTS = 7;
    private static final int WISH = 8;
    private static final int FINE = 9;
    private static final int BAIL = 10;
    private static final int GIVE = 11;
    private static final int STRETCH = 12;
    private static final int GIFT = 13;
    private static final int GOT = 14;
    private static final int OWED = 15;
    private static final int TALL = 16;

    private static final int SLOTS = 3;
    private static final int NUMBER_SLOT = 1;
    private static final int OFFENCE_SLOT = 2;

    /** What comes behind each word: 1 a NUMBER, 2 an OFFENCE, 0 nothing more. */
    private static final int[] SLOT = {
        1, 0, 0, 1, 0, 0, 1, 0, 0, 1, 0, 0, 1, 0, 0,
        1, 1, 0, 1, 1, 0, 2, 1, 0, 1, 2, 1,
        1, 2, 0, 1, 2, 0, 1, 1, 0, 1, 1, 0, 1, 1, 1,
        1, 1, 0, 1, 0, 0,
        1, 1, 0
    };

    private static final int[] LEAST = {
        1, 0, 0, 0, 0, 0, 0, 0, 0, 1, 0, 0, 1, 0, 0,
        0, 0, 0, 0, 0, 0, 0, 1, 0, 0, 0, 0,
        0, 0, 0, 0, 0, 0, 0, 1, 0, 0, 1, 0, 0, 0, 1,
        0, 0, 0, 0, 0, 0,
        0, 1, 0
    };

    private static final int[] GREATEST = {
        99, 0, 0, 7, 0, 0, 10, 0, 0, 99, 0, 0, 99, 0, 0,
        7, 7, 0, 7, 5, 0, 3, 9, 0, 7, 3, 99,
        7, 3, 0, 7, 3, 0, 7, 99, 0, 7, 99, 0, 7, 7, 99,
        7, 99, 0, 99, 0, 0,
        7, 99, 0
    };

    // The kinds of a DEED, as deed() tells them.
    private static final int FINED = 0;
    private static final int BAILED = 1;
    private static final int GIVEN = 2;
    private static final int STRETCHED = 3;
    private static final int GIFTED = 4;

    private final Told told;
    private final Told[] images;
    private final Reader reader;
    private final Walk walk;
    private final Reach reach;
    private final Raises raises;
    private final Guess guess;
    private final Crowd crowd;

    public HeightFine() {
        told = new Told();
        images = new Told[MOST_IMAGES];
        reader = new Reader();
        walk = new Walk();
        reach = new Reach();
        raises = new Raises();
        guess = new Guess();
        crowd = new Crowd();
    }

    public int feed(int a, int b, int c, int d, int e) {
        if (told.length + FED > MOST_TAPE) {
            return NONE;
        }
        told.put(a);
        told.put(b);
        told.put(c);
        told.put(d);
        told.put(e);
        return told.length;
    }

    public int end(int n) {
        if (n < 0 || n > told.length) {
            return NONE;
        }
        told.length = n;
        return n;
    }

    public int text(int sort, int at) {
        // The tape is taken whatever comes of it, even where there is no place for a text.
        int size = told.length;
        told.length = 0;
        told.fault = 0;
        told.place = NONE;
        int number = told.placeFor(sort, at);
        if (number == NONE) {
            return NO_SUCH;
        }
        reader.read(sort, told.tape, size);
        told.fault = reader.fault;
        told.place = reader.place;
        if (reader.fault != 0) {
            return NONE;
        }
        told.keep(sort, number, reader);
        return number;
    }

    public int fault(int what) {
        if (what == 0) {
            return told.fault;
        }
        return what == 1 ? told.place : NONE;
    }

    public int borough(int borough, int what) {
        Borough of = told.boroughAt(borough);
        return of == null ? NO_SUCH : of.look(what);
    }

    public int deed(int year, int k, int what) {
        Year of = told.yearAt(year);
        if (of == null) {
            return NO_SUCH;
        }
        if (k == NONE) {
            return what == 0 ? of.deeds : NO_SUCH;
        }
        return of.look(k, what);
    }

    public int stop(int borough, int year) {
        Borough of = told.boroughAt(borough);
        Year deeds = told.yearAt(year);
        if (of == null || deeds == null) {
            return NONE;
        }
        return walk.run(of, deeds, MOST_DEEDS);
    }

    public int state(int borough, int year, int n, int what) {
        Borough of = told.boroughAt(borough);
        if (of == null || !standsBehind(of, told.yearAt(year), n)) {
            return NO_SUCH;
        }
        return walk.look(of, what);
    }

    public int reached(int borough, int n, int what) {
        Borough of = told.boroughAt(borough);
        if (of == null || n < 0 || n > MOST_INCHES) {
            return NONE;
        }
        boolean ofWork = what >= 10 && what < 10 + of.works;
        if (!ofWork && what != 0 && what != 1) {
            return NONE;
        }
        reach.plan(of, n);
        if (ofWork) {
            return reach.doer(of, what - 10);
        }
        return what == 0 ? reach.most : reach.fewest;
    }

    public int cut(int borough, int n, int what) {
        Borough of = told.boroughAt(borough);
        if (of == null || n < 0 || n > MOST_INCHES) {
            return NONE;
        }
        boolean ofDoor = what >= 10 && what < 10 + of.doors;
        if (!ofDoor && what != 0) {
            return NONE;
        }
        raises.plan(of, n);
        return ofDoor ? raises.raiseOf(of, n, what - 10) : raises.most(n);
    }

    public int love(int borough, int n, boolean even) {
        Borough of = told.boroughAt(borough);
        if (of == null || n < 0 || n > MOST_INCHES) {
            return NONE;
        }
        return even ? crowd.fewestMoved(of, n) : crowd.couples(of, n);
    }

    public int dares(int borough, int offence, int f, int what) {
        Borough of = told.boroughAt(borough);
        if (of == null || offence < 0 || offence >= OFFENCES) {
            return NO_SUCH;
        }
        if (what == 3) {
            return of.deterring(offence);
        }
        if (what == 4) {
            return of.bestFine(offence);
        }
        if (f < 1 || f > MOST_FINE) {
            return NO_SUCH;
        }
        switch (what) {
            case 0:
                return of.daring(offence, f);
            case 1:
                return of.harm(offence, f);
            case 2:
                return of.taken(offence, f);
            default:
                return NO_SUCH;
        }
    }

    public int share(int borough, int person, int n, int who) {
        Borough of = told.boroughAt(borough);
        if (of == null || !of.has(person) || n < 1 || n > MOST_INCHES) {
            return NONE;
        }
        if (who != NONE && !of.has(who)) {
            return NONE;
        }
        return of.shareOf(person, n, who);
    }

    public int elder(int borough, int a, int b) {
        Borough of = told.boroughAt(borough);
        if (of == null || !of.has(a) || !of.has(b)) {
            return NONE;
        }
        return of.commonForbear(a, b);
    }

    public int ledger(int ledger, int what) {
        Ledger of = told.ledgerAt(ledger);
        if (of == null) {
            return NO_SUCH;
        }
        if (what >= 10 && what < 10 + MOST_PEOPLE) {
            return of.got[what - 10];
        }
        if (what >= 20 && what < 20 + MOST_PEOPLE) {
            return of.fairPart(what - 20);
        }
        switch (what) {
            case 0:
                return of.owed;
            case 1:
                return crowd.fewest(of.got, MOST_PEOPLE, of.owed);
            case 2:
                return crowd.exactWays(of);
            case 3:
                return crowd.firstExact(of);
            default:
                return NO_SUCH;
        }
    }

    public int fact(int sight, int k, int what) {
        Sight of = told.sightAt(sight);
        if (of == null) {
            return NO_SUCH;
        }
        if (k == NONE) {
            return what == 0 ? of.facts : NO_SUCH;
        }
        return of.look(k, what);
    }

    public long rows(int borough, int sight, int n, int person, int k) {
        Borough of = told.boroughAt(borough);
        if (of == null || !guessable(of, told.sightAt(sight), n) || k < 0 || k > n) {
            return NONE;
        }
        if (person == NONE) {
            return guess.ways(n);
        }
        return of.has(person) ? guess.didJust(person, k, n) : NONE;
    }

    public int sure(int borough, int sight, int n, int person) {
        Borough of = told.boroughAt(borough);
        if (of == null || !guessable(of, told.sightAt(sight), n)) {
            return NONE;
        }
        if (person == NONE) {
            return guess.whomToAsk(n);
        }
        return of.has(person) ? guess.surely(person, n) : NONE;
    }

    public int drawn(int borough, int seed, int n, int what) {
        Borough of = told.boroughAt(borough);
        if (of == null || of.people == 0 || n < 0 || n > MOST_DRAWN) {
            return NO_SUCH;
        }
        walk.draw(of, seed, n);
        return walk.look(of, what);
    }

    public int family(int borough, int person, int what) {
        Borough of = told.boroughAt(borough);
        if (of == null || !of.has(person)) {
            return NONE;
        }
        switch (what) {
            case 0:
                return of.familyOf(person);
            case 1:
                return of.familyInches(person);
            case 2:
                return of.familySteps(person);
            default:
                return NONE;
        }
    }

    public long views(int borough, int k) {
        Borough of = told.boroughAt(borough);
        return of == null ? NONE : crowd.orders(of, k);
    }

    public int shoulders(int borough, int n) {
        Borough of = told.boroughAt(borough);
        return of == null ? NONE : crowd.fewest(of.inches, of.people, n);
    }

    public int hats(int borough, boolean highest) {
        Borough of = told.boroughAt(borough);
        if (of == null) {
            return NONE;
        }
        return highest ? crowd.highestHat(of) : crowd.hatInches(of);
    }

    public int teams(int borough, boolean bits) {
        Borough of = told.boroughAt(borough);
        if (of == null || of.people < 2) {
            return NONE;
        }
        int team = crowd.team(of);
        return bits ? team : crowd.difference(of, team);
    }

    public int assumed(int borough, int h, int what) {
        Borough of = told.boroughAt(borough);
        if (of == null) {
            return NONE;
        }
        if (what == 3) {
            return of.wisest();
        }
        if (h < 0 || h > MOST_INCHES) {
            return NONE;
        }
        switch (what) {
            case 0:
                return of.wrongOf(h);
            case 1:
                return of.poorPart(h, true);
            case 2:
                return of.poorPart(h, false);
            default:
                return NONE;
        }
    }

    public int settled(int borough, int year, int n) {
        Borough of = told.boroughAt(borough);
        if (of == null || !standsBehind(of, told.yearAt(year), n)) {
            return NONE;
        }
        return walk.fewestGifts(of);
    }

    public int count(int sort) {
        return sort < 0 || sort >= SORTS ? NO_SUCH : told.counts[sort];
    }

    public boolean image(int k) {
        if (k < 0 || k >= MOST_IMAGES) {
            return false;
        }
        if (images[k] == null) {
            images[k] = new Told();
        }
        images[k].copy(told);
        return true;
    }

    public boolean again(int k) {
        if (k < 0 || k >= MOST_IMAGES || images[k] == null) {
            return false;
        }
        told.copy(images[k]);
        return true;
    }

    /** Brings the walk behind the first n DEEDS; false if there is no such STATE. */
    private boolean standsBehind(Borough of, Year year, int n) {
        if (year == null || n < 0 || n > year.deeds) {
            return false;
        }
        return walk.run(of, year, n) == n;
    }

    /** Makes the guess ready; false where rows() has nothing to tell. */
    private boolean guessable(Borough of, Sight sight, int n) {
        if (sight == null || n < 0 || n > MOST_GUESSED) {
            return false;
        }
        return guess.open(of, sight);
    }

    /** A BOROUGH as told, and what follows from it person by person. */
    private static final class Borough {
        final int[] inches = new int[MOST_PEOPLE];
        final int[] parent = new int[MOST_PEOPLE];
        final int[] fine = new int[OFFENCES];
        final int[] wish = new int[MOST_PEOPLE * OFFENCES];
        final int[] top = new int[MOST_DOORS];
        final int[] pass = new int[MOST_DOORS];
        final int[] reach = new int[MOST_WORKS];
        int people;
        int poor;
        int caught;
        int doors;
        int works;

        Borough() {
            wipe();
        }

        void wipe() {
            Arrays.fill(inches, 0);
            Arrays.fill(parent, NONE);
            System.arraycopy(FIRST_FINES, 0, fine, 0, OFFENCES);
            Arrays.fill(wish, 0);
            Arrays.fill(top, 0);
            Arrays.fill(pass, 0);
            Arrays.fill(reach, 0);
            people = 0;
            poor = 0;
            caught = FIRST_CAUGHT;
            doors = 0;
            works = 0;
        }

        void copy(Borough from) {
            System.arraycopy(from.inches, 0, inches, 0, MOST_PEOPLE);
            System.arraycopy(from.parent, 0, parent, 0, MOST_PEOPLE);
            System.arraycopy(from.fine, 0, fine, 0, OFFENCES);
            System.arraycopy(from.wish, 0, wish, 0, MOST_PEOPLE * OFFENCES);
            System.arraycopy(from.top, 0, top, 0, MOST_DOORS);
            System.arraycopy(from.pass, 0, pass, 0, MOST_DOORS);
            System.arraycopy(from.reach, 0, reach, 0, MOST_WORKS);
            people = from.people;
            poor = from.poor;
            caught = from.caught;
            doors = from.doors;
            works = from.works;
        }

        boolean has(int person) {
            return person >= 0 && person < people && person < MOST_PEOPLE;
        }

        boolean isPoor(int person) {
            return (poor >> person & 1) != 0;
        }

        int look(int what) {
            if (what < 10) {
                return total(what);
            }
            if (what < 20) {
                return entry(inches, people, what - 10);
            }
            if (what < 30) {
                return entry(parent, people, what - 20);
            }
            if (what < 40) {
                return entry(fine, OFFENCES, what - 30);
            }
            if (what < 50) {
                return entry(top, doors, what - 40);
            }
            if (what < 60) {
                return entry(pass, doors, what - 50);
            }
            if (what < 70) {
                return entry(reach, works, what - 60);
            }
            return entry(wish, OFFENCES * people, what - 70);
        }

        private int total(int what) {
            switch (what) {
                case 0:
                    return people;
                case 1:
                    return poor;
                case 2:
                    return caught;
                case 3:
                    return doors;
                case 4:
                    return works;
                default:
                    return NO_SUCH;
            }
        }

        private static int entry(int[] row, int size, int k) {
            return k < 0 || k >= size || k >= row.length ? NO_SUCH : row[k];
        }

        /** PARENTS go round if some way up does not end within as many steps as there are PEOPLE. */
        boolean goesRound() {
            for (int p = 0; p < people; p++) {
                int at = p;
                for (int step = 0; step < people && has(at); step++) {
                    at = parent[at];
                }
                if (has(at)) {
                    return true;
                }
            }
            return false;
        }

        int daring(int offence, int f) {
            int who = 0;
            for (int p = 0; p < people; p++) {
                if (10 * wish[OFFENCES * p + offence] > f * caught) {
                    who |= 1 << p;
                }
            }
            return who;
        }

        int harm(int offence, int f) {
            int who = daring(offence, f);
            int sum = 0;
            for (int p = 0; p < people; p++) {
                if ((who >> p & 1) != 0) {
                    sum += wish[OFFENCES * p + offence];
                }
            }
            return sum;
        }

        int taken(int offence, int f) {
            return f * caught * Integer.bitCount(daring(offence, f));
        }

        int deterring(int offence) {
            for (int f = 1; f <= MOST_FINE; f++) {
                if (daring(offence, f) == 0) {
                    return f;
                }
            }
            return NONE;
        }

        int bestFine(int offence) {
            int best = 1;
            for (int f = 2; f <= MOST_FINE; f++) {
                if (taken(offence, f) > taken(offence, best)) {
                    best = f;
                }
            }
            return best;
        }

        /** What who loses of a person's fine of n, or (who NONE) what is lost of it. */
        int shareOf(int person, int n, int who) {
            int rest = n;
            int at = person;
            for (int step = 0; step < people && has(at); step++) {
                int due = parent[at] == NONE ? rest : rest / 2;
                int loss = Math.min(due, inches[at] - 1);
                if (at == who) {
                    return loss;
                }
                rest -= loss;
                at = parent[at];
            }
            return who == NONE ? rest : 0;
        }

        /** The steps up from one to another one, or NONE if this is not on the way. */
        private int stepsUp(int from, int to) {
            int at = from;
            for (int step = 0; step < people && has(at); step++) {
                if (at == to) {
                    return step;
                }
                at = parent[at];
            }
            return NONE;
        }

        int commonForbear(int a, int b) {
            int at = a;
            for (int step = 0; step < people && has(at); step++) {
                if (stepsUp(b, at) != NONE) {
                    return at;
                }
                at = parent[at];
            }
            return NONE;
        }

        int familyOf(int person) {
            int who = 0;
            for (int p = 0; p < people; p++) {
                if (stepsUp(p, person) != NONE) {
                    who |= 1 << p;
                }
            }
            return who;
        }

        int familyInches(int person) {
            int sum = 0;
            for (int p = 0; p < people; p++) {
                if (stepsUp(p, person) != NONE) {
                    sum += inches[p];
                }
            }
            return sum;
        }

        int familySteps(int person) {
            int most = 0;
            for (int p = 0; p < people; p++) {
                most = Math.max(most, stepsUp(p, person));
            }
            return most;
        }

        int wrongOf(int h) {
            int wrong = 0;
            for (int p = 0; p < people; p++) {
                if ((inches[p] <= h) != isPoor(p)) {
                    wrong++;
                }
            }
            return wrong;
        }

        /** Which part of those of h INCHES or less is POOR: what stands above, or below. */
        int poorPart(int h, boolean above) {
            int low = 0;
            int lowPoor = 0;
            for (int p = 0; p < people; p++) {
                if (inches[p] <= h) {
                    low++;
                    lowPoor += isPoor(p) ? 1 : 0;
                }
            }
            if (lowPoor == 0) {
                return above ? 0 : 1;
            }
            int divisor = lowPoor;
            while (divisor > 1 && (low % divisor != 0 || lowPoor % divisor != 0)) {
                divisor--;
            }
            return (above ? lowPoor : low) / divisor;
        }

        int wisest() {
            int best = 0;
            for (int h = 1; h <= MOST_INCHES; h++) {
                if (wrongOf(h) < wrongOf(best)) {
                    best = h;
                }
            }
            return best;
        }
    }

    /** The DEEDS of a YEAR; a number that a DEED has not is NONE. */
    private static final class Year {
        final int[] kind = new int[MOST_DEEDS];
        final int[] first = new int[MOST_DEEDS];
        final int[] second = new int[MOST_DEEDS];
        final int[] third = new int[MOST_DEEDS];
        int deeds;

        void copy(Year from) {
            System.arraycopy(from.kind, 0, kind, 0, MOST_DEEDS);
            System.arraycopy(from.first, 0, first, 0, MOST_DEEDS);
            System.arraycopy(from.second, 0, second, 0, MOST_DEEDS);
            System.arraycopy(from.third, 0, third, 0, MOST_DEEDS);
            deeds = from.deeds;
        }

        void add(int what, int a, int b, int c) {
            if (deeds < MOST_DEEDS) {
                kind[deeds] = what;
                first[deeds] = a;
                second[deeds] = b;
                third[deeds] = c;
                deeds++;
            }
        }

        int look(int k, int what) {
            if (k < 0 || k >= deeds || k >= MOST_DEEDS) {
                return NO_SUCH;
            }
            switch (what) {
                case 0:
                    return kind[k];
                case 1:
                    return first[k];
                case 2:
                    return second[k];
                case 3:
                    return third[k];
                default:
                    return NO_SUCH;
            }
        }
    }

    private static final class Ledger {
        final int[] got = new int[MOST_PEOPLE];
        int owed;

        void wipe() {
            Arrays.fill(got, 0);
            owed = 0;
        }

        void copy(Ledger from) {
            System.arraycopy(from.got, 0, got, 0, MOST_PEOPLE);
            owed = from.owed;
        }

        private int allGot() {
            int sum = 0;
            for (int k = 0; k < MOST_PEOPLE; k++) {
                sum += got[k];
            }
            return sum;
        }

        /** What one gives back by FAIR: his part, cut, and 1 more if his remainder is served. */
        int fairPart(int one) {
            int all = allGot();
            if (all == 0 || all < owed || one < 0 || one >= MOST_PEOPLE) {
                return 0;
            }
            int rest = owed;
            int ahead = 0;
            int mine = got[one] * owed % all;
            for (int k = 0; k < MOST_PEOPLE; k++) {
                rest -= got[k] * owed / all;
                int other = got[k] * owed % all;
                if (other > mine || other == mine && k < one) {
                    ahead++;
                }
            }
            return got[one] * owed / all + (ahead < rest ? 1 : 0);
        }
    }

    private static final class Sight {
        final int[] person = new int[MOST_FACTS];
        final int[] tall = new int[MOST_FACTS];
        int facts;

        void copy(Sight from) {
            System.arraycopy(from.person, 0, person, 0, MOST_FACTS);
            System.arraycopy(from.tall, 0, tall, 0, MOST_FACTS);
            facts = from.facts;
        }

        void add(int who, int inches) {
            if (facts < MOST_FACTS) {
                person[facts] = who;
                tall[facts] = inches;
                facts++;
            }
        }

        int look(int k, int what) {
            if (k < 0 || k >= facts || k >= MOST_FACTS) {
                return NO_SUCH;
            }
            if (what == 0) {
                return person[k];
            }
            return what == 1 ? tall[k] : NO_SUCH;
        }
    }

    /** All that is told, which is what an image has. */
    private static final class Told {
        final byte[] tape = new byte[MOST_TAPE];
        final int[] counts = new int[SORTS];
        final Borough[] boroughs = {new Borough(), new Borough()};
        final Year[] years = {new Year(), new Year()};
        final Ledger[] ledgers = {new Ledger(), new Ledger()};
        final Sight[] sights = {new Sight(), new Sight()};
        int length;
        int fault;
        int place = NONE;

        void copy(Told from) {
            System.arraycopy(from.tape, 0, tape, 0, MOST_TAPE);
            System.arraycopy(from.counts, 0, counts, 0, SORTS);
            for (int k = 0; k < MOST_TEXTS; k++) {
                boroughs[k].copy(from.boroughs[k]);
                years[k].copy(from.years[k]);
                ledgers[k].copy(from.ledgers[k]);
                sights[k].copy(from.sights[k]);
            }
            length = from.length;
            fault = from.fault;
            place = from.place;
        }

        void put(int four) {
            for (int shift = 24; shift >= 0 && length < MOST_TAPE; shift -= 8) {
                tape[length] = (byte) (four >> shift);
                length++;
            }
        }

        /** The number that a text would have, or NONE if it can't come. */
        int placeFor(int sort, int at) {
            if (sort < 0 || sort >= SORTS) {
                return NONE;
            }
            if (at == NONE) {
                return counts[sort] < MOST_TEXTS ? counts[sort] : NONE;
            }
            return holds(sort, at) ? at : NONE;
        }

        void keep(int sort, int number, Reader from) {
            if (number < 0 || number >= MOST_TEXTS || sort < 0 || sort >= SORTS) {
                return;
            }
            switch (sort) {
                case BOROUGHS:
                    boroughs[number].copy(from.borough);
                    break;
                case YEARS:
                    years[number].copy(from.year);
                    break;
                case LEDGERS:
                    ledgers[number].copy(from.ledger);
                    break;
                default:
                    sights[number].copy(from.sight);
                    break;
            }
            counts[sort] = Math.max(counts[sort], number + 1);
        }

        private boolean holds(int sort, int number) {
            return number >= 0 && number < counts[sort] && number < MOST_TEXTS;
        }

        Borough boroughAt(int number) {
            return holds(BOROUGHS, number) ? boroughs[number] : null;
        }

        Year yearAt(int number) {
            return holds(YEARS, number) ? years[number] : null;
        }

        Ledger ledgerAt(int number) {
            return holds(LEDGERS, number) ? ledgers[number] : null;
        }

        Sight sightAt(int number) {
            return holds(SIGHTS, number) ? sights[number] : null;
        }
    }

    /** Reads the tape as a text of a sort; what it read is good only where it found no FAULT. */
    private static final class Reader {
        private static final int THE_END = 0;
        private static final int A_WORD = 1;
        private static final int A_NUMBER = 2;
        private static final int A_SEMICOLON = 3;
        private static final int NO_TOKEN = 4;

        final Borough borough = new Borough();
        final Year year = new Year();
        final Ledger ledger = new Ledger();
        final Sight sight = new Sight();
        final int[] value = new int[SLOTS];
        byte[] tape = {};
        int length;
        int fault;
        int place;
        /** Where the latest token begins, and where the bytes behind it begin. */
        int start;
        int next;
        int token;
        int number;
        int namedPeople;
        int namedDoors;

        void read(int sort, byte[] from, int size) {
            open(from, size);
            // Each line takes a byte at least, so that there are no more lines than bytes.
            for (int line = 0; line <= length; line++) {
                advance();
                if (token == THE_END) {
                    close(sort);
                    return;
                }
                if (!readLine(sort)) {
                    fault = 1;
                    place = start;
                    return;
                }
            }
        }

        private void open(byte[] from, int size) {
            tape = from;
            length = Math.min(size, from.length);
            borough.wipe();
            year.deeds = 0;
            ledger.wipe();
            sight.facts = 0;
            fault = 0;
            place = NONE;
            next = 0;
            namedPeople = 0;
            namedDoors = 0;
        }

        private void close(int sort) {
            if (sort != BOROUGHS) {
                return;
            }
            if (namedPeople >> borough.people != 0) {
                note(4, length);
            }
            if (namedDoors >> borough.doors != 0) {
                note(5, length);
            }
            if (fault == 0 && borough.goesRound()) {
                note(6, length);
            }
        }

        /** FAULTS are met by their places, so the first one stays. */
        private void note(int which, int where) {
            if (fault == 0) {
                fault = which;
                place = where;
            }
        }

        private int byteAt(int at) {
            return at >= 0 && at < length && at < tape.length ? tape[at] & 255 : 0;
        }

        private static boolean isLetter(int sign) {
            return sign >= 'a' && sign <= 'z';
        }

        private static boolean isDigit(int sign) {
            return sign >= '0' && sign <= '9';
        }

        private void advance() {
            while (next < length && (byteAt(next) == 10 || byteAt(next) == 32)) {
                next++;
            }
            start = next;
            if (next >= length) {
                token = THE_END;
                return;
            }
            int sign = byteAt(next);
            next++;
            if (isLetter(sign)) {
                while (next < length && isLetter(byteAt(next))) {
                    next++;
                }
                token = A_WORD;
            } else if (isDigit(sign)) {
                takeDigits(sign);
            } else {
                token = sign == ';' ? A_SEMICOLON : NO_TOKEN;
            }
        }

        private void takeDigits(int sign) {
            number = sign - '0';
            while (next < length && isDigit(byteAt(next))) {
                // A third digit makes it no token: what it would come to is not needed then.
                number = Math.min(10 * number + byteAt(next) - '0', 1000);
                next++;
            }
            token = next - start <= 2 ? A_NUMBER : NO_TOKEN;
        }

        private boolean is(String word) {
            if (token != A_WORD || next - start != word.length()) {
                return false;
            }
            for (int k = 0; k < word.length(); k++) {
                if (byteAt(start + k) != word.charAt(k)) {
                    return false;
                }
            }
            return true;
        }

        private int lineWord(int sort) {
            switch (sort) {
                case BOROUGHS:
                    return boroughWord();
                case YEARS:
                    return yearWord();
                case LEDGERS:
                    return is("got") ? GOT : is("owed") ? OWED : NONE;
                case SIGHTS:
                    return is("tall") ? TALL : NONE;
                default:
                    return NONE;
            }
        }

        private int boroughWord() {
            if (is("person")) {
                return PERSON;
            }
            if (is("poor")) {
                return POOR;
            }
            if (is("caught")) {
                return CAUGHT;
            }
            if (is("door")) {
                return DOOR;
            }
            if (is("work")) {
                return WORK;
            }
            if (is("child")) {
                return CHILD;
            }
            if (is("pass")) {
                return PASS;
            }
            if (is("costs")) {
                return COSTS;
            }
            return is("wish") ? WISH : NONE;
        }

        private int yearWord() {
            if (is("fine")) {
                return FINE;
            }
            if (is("bail")) {
                return BAIL;
            }
            if (is("give")) {
                return GIVE;
            }
            if (is("stretch")) {
                return STRETCH;
            }
            return is("gift") ? GIFT : NONE;
        }

        private int offenceWord() {
            if (is("theft")) {
                return 0;
            }
            if (is("lie")) {
                return 1;
            }
            if (is("speed")) {
                return 2;
            }
            return is("insult") ? 3 : NONE;
        }

        /** Reads a line whose first token is the latest one; false: no text goes on with the latest token. */
        private boolean readLine(int sort) {
            int word = lineWord(sort);
            if (word == NONE) {
                return false;
            }
            if (isFull(word)) {
                note(3, start);
            }
            for (int slot = 0; slot < SLOTS; slot++) {
                value[slot] = NONE;
                if (SLOT[SLOTS * word + slot] != 0 && !readSlot(word, slot)) {
                    return false;
                }
            }
            advance();
            if (token != A_SEMICOLON) {
                return false;
            }
            if (fault == 0) {
                tell(word);
            }
            return true;
        }

        private boolean readSlot(int word, int slot) {
            advance();
            int row = SLOTS * word + slot;
            if (SLOT[row] == OFFENCE_SLOT) {
                value[slot] = offenceWord();
                return value[slot] != NONE;
            }
            if (SLOT[row] != NUMBER_SLOT || token != A_NUMBER) {
                return false;
            }
            value[slot] = number;
            boolean himself = (word == CHILD || word == GIFT) && slot == 1 && number == value[0];
            if (number < LEAST[row] || number > GREATEST[row] || himself) {
                note(2, start);
            }
            return true;
        }

        private boolean isFull(int word) {
            switch (word) {
                case PERSON:
                    return borough.people >= MOST_PEOPLE;
                case DOOR:
                    return borough.doors >= MOST_DOORS;
                case WORK:
                    return borough.works >= MOST_WORKS;
                case TALL:
                    return sight.facts >= MOST_FACTS;
                default:
                    return word >= FINE && word <= GIFT && year.deeds >= MOST_DEEDS;
            }
        }

        private void tell(int word) {
            if (word <= WISH) {
                tellBorough(word, value[0], value[1], value[2]);
            } else if (word <= GIFT) {
                year.add(word - FINE, value[0], value[1], value[2]);
            } else if (word == GOT) {
                tellGot(value[0], value[1]);
            } else if (word == OWED) {
                ledger.owed = value[0];
            } else {
                sight.add(value[0], value[1]);
            }
        }

        private void tellGot(int one, int inches) {
            if (one >= 0 && one < MOST_PEOPLE) {
                ledger.got[one] = inches;
            }
        }

        private void tellBorough(int word, int a, int b, int c) {
            switch (word) {
                case PERSON:
                    tellPerson(a);
                    break;
                case POOR:
                    namedPeople |= 1 << a;
                    borough.poor |= 1 << a;
                    break;
                case CAUGHT:
                    borough.caught = a;
                    break;
                case DOOR:
                    tellDoor(a);
                    break;
                case WORK:
                    tellWork(a);
                    break;
                case CHILD:
                    tellChild(a, b);
                    break;
                case PASS:
                    tellPass(a, b);
                    break;
                case COSTS:
                    tellFine(a, b);
                    break;
                default:
                    tellWish(a, b, c);
                    break;
            }
        }

        private void tellPerson(int inches) {
            if (borough.people < MOST_PEOPLE) {
                borough.inches[borough.people] = inches;
                borough.people++;
            }
        }

        private void tellDoor(int top) {
            if (borough.doors < MOST_DOORS) {
                borough.top[borough.doors] = top;
                borough.doors++;
            }
        }

        private void tellWork(int reach) {
            if (borough.works < MOST_WORKS) {
                borough.reach[borough.works] = reach;
                borough.works++;
            }
        }

        private void tellChild(int child, int parent) {
            if (child >= 0 && child < MOST_PEOPLE) {
                borough.parent[child] = parent;
                namedPeople |= 1 << child | 1 << parent;
            }
        }

        private void tellPass(int person, int door) {
            if (door >= 0 && door < MOST_DOORS) {
                borough.pass[door] |= 1 << person;
                namedPeople |= 1 << person;
                namedDoors |= 1 << door;
            }
        }

        private void tellFine(int offence, int fine) {
            if (offence >= 0 && offence < OFFENCES) {
                borough.fine[offence] = fine;
            }
        }

        private void tellWish(int person, int offence, int wish) {
            int at = OFFENCES * person + offence;
            if (at >= 0 && at < borough.wish.length) {
                borough.wish[at] = wish;
                namedPeople |= 1 << person;
            }
        }
    }

    /** A YEAR's way, deed by deed: who is how tall, what lies in the PRESS. */
    private static final class Walk {
        final int[] inches = new int[MOST_PEOPLE];
        final int[] over = new int[2 * SETS];
        final int[] groups = new int[2 * SETS];
        int press;
        int seed;

        private void begin(Borough of) {
            System.arraycopy(of.inches, 0, inches, 0, MOST_PEOPLE);
            press = 0;
        }

        /** Goes on for so many DEEDS at most, up to one that can't be: how many were done. */
        int run(Borough of, Year year, int most) {
            begin(of);
            int done = 0;
            while (done < most && done < year.deeds && done < MOST_DEEDS
                    && act(of, year.kind[done], year.first[done], year.second[done], year.third[done])) {
                done++;
            }
            return done;
        }

        void draw(Borough of, int x, int times) {
            begin(of);
            seed = x;
            for (int k = 0; k < times; k++) {
                int person = below(of.people);
                int kind = below(8);
                if (kind < OFFENCES) {
                    act(of, FINED, person, kind, NONE);
                } else if (kind == 4) {
                    act(of, BAILED, person, below(OFFENCES), NONE);
                } else if (kind == 5) {
                    act(of, GIVEN, person, 1 + below(5), NONE);
                } else if (kind == 6) {
                    act(of, STRETCHED, person, 1 + below(5), NONE);
                } else {
                    int to = below(of.people);
                    act(of, GIFTED, person, to, 1 + below(5));
                }
            }
        }

        private int below(int n) {
            seed = seed * 1103515245 + 12345;
            return n < 1 ? 0 : (seed >>> 16) % n;
        }

        /** Does a DEED if it can be; else all stays as it is, and false. */
        private boolean act(Borough of, int kind, int person, int second, int third) {
            if (!of.has(person)) {
                return false;
            }
            switch (kind) {
                case FINED:
                    return fined(of, person, second);
                case BAILED:
                    return bailed(of, person, second);
                case GIVEN:
                    return given(of, person, second);
                case STRETCHED:
                    inches[person] += Math.max(0, Math.min(second, of.inches[person] - inches[person]));
                    return true;
                default:
                    return gifted(of, person, second, third);
            }
        }

        private boolean fined(Borough of, int person, int offence) {
            if (offence < 0 || offence >= OFFENCES || inches[person] - of.fine[offence] < 1) {
                return false;
            }
            inches[person] -= of.fine[offence];
            press += of.fine[offence];
            return true;
        }

        private boolean bailed(Borough of, int person, int offence) {
            int parent = of.parent[person];
            if (offence < 0 || offence >= OFFENCES || !of.has(parent)) {
                return false;
            }
            int fine = of.fine[offence];
            int bail = (fine + 1) / 2;
            if (inches[parent] - bail < 1 || inches[person] - (fine - bail) < 1) {
                return false;
            }
            inches[parent] -= bail;
            inches[person] -= fine - bail;
            press += fine;
            return true;
        }

        private boolean given(Borough of, int person, int n) {
            if (!of.isPoor(person) || n > press || inches[person] + n > MOST_INCHES) {
                return false;
            }
            press -= n;
            inches[person] += n;
            return true;
        }

        private boolean gifted(Borough of, int from, int to, int n) {
            if (!of.has(to) || from == to || inches[from] - n < 1 || inches[to] + n > MOST_INCHES) {
                return false;
            }
            inches[from] -= n;
            inches[to] += n;
            return true;
        }

        int look(Borough of, int what) {
            if (what >= 10 && of.has(what - 10)) {
                return inches[what - 10];
            }
            if (what >= 20 && of.has(what - 20)) {
                return ranked(of, what - 20);
            }
            switch (what) {
                case 0:
                    return press;
                case 1:
                    return changed(of, -1);
                case 2:
                    return changed(of, 1);
                case 3:
                    return couplesUp(of);
                default:
                    return NO_SUCH;
            }
        }

        /** Who is less tall (sign -1) or taller (1) than at first. */
        private int changed(Borough of, int sign) {
            int who = 0;
            for (int p = 0; p < of.people; p++) {
                if (sign * (inches[p] - of.inches[p]) > 0) {
                    who |= 1 << p;
                }
            }
            return who;
        }

        private int couplesUp(Borough of) {
            int couples = 0;
            for (int p = 0; p < of.people; p++) {
                for (int q = 0; q < of.people; q++) {
                    if (of.isPoor(p) && !of.isPoor(q) && inches[p] > inches[q]) {
                        couples++;
                    }
                }
            }
            return couples;
        }

        private int ranked(Borough of, int k) {
            for (int p = 0; p < of.people; p++) {
                if (aheadOf(of, p) == k) {
                    return p;
                }
            }
            return NO_SUCH;
        }

        private int aheadOf(Borough of, int p) {
            int ahead = 0;
            for (int q = 0; q < of.people; q++) {
                if (inches[q] > inches[p] || inches[q] == inches[p] && q < p) {
                    ahead++;
                }
            }
            return ahead;
        }

        /**
         * A group that is even within itself settles by one gift fewer than it has members, so it is
         * the most such groups that count. Whoever has what he had at first is a group by himself.
         */
        int fewestGifts(Borough of) {
            int parties = of.people + 1;
            over[0] = 0;
            groups[0] = 0;
            for (int k = 0; k < parties && k <= MOST_PEOPLE; k++) {
                int mine = k < of.people ? inches[k] - of.inches[k] : press;
                for (int set = 0; set < 1 << k; set++) {
                    over[set | 1 << k] = over[set] + mine;
                }
            }
            int all = (1 << parties) - 1;
            if (over[all] != 0) {
                return NONE;
            }
            for (int set = 1; set <= all; set++) {
                groups[set] = mostGroups(set, parties) + (over[set] == 0 ? 1 : 0);
            }
            return parties - groups[all];
        }

        private int mostGroups(int set, int parties) {
            int most = 0;
            for (int k = 0; k < parties; k++) {
                if ((set >> k & 1) != 0) {
                    most = Math.max(most, groups[set ^ 1 << k]);
                }
            }
            return most;
        }
    }

    /** REACHED: which WORKS are done by whom. */
    private static final class Reach {
        private static final int FAR = 1000000;
        private static final int NOBODY = 8;

        /** By WORK and set: the fewest inches for WORKS from this one on, done by just these PEOPLE. */
        final int[] cost = new int[(MOST_WORKS + 1) * SETS];
        int most;
        int fewest;

        void plan(Borough of, int inches) {
            int sets = 1 << of.people;
            Arrays.fill(cost, FAR);
            cost[SETS * of.works] = 0;
            for (int w = of.works - 1; w >= 0; w--) {
                for (int set = 0; set < sets; set++) {
                    if (cost[SETS * (w + 1) + set] < FAR) {
                        widen(of, w, set);
                    }
                }
            }
            most = 0;
            fewest = 0;
            for (int set = 0; set < sets; set++) {
                int many = Integer.bitCount(set);
                if (cost[set] <= inches && (many > most || many == most && cost[set] < fewest)) {
                    most = many;
                    fewest = cost[set];
                }
            }
        }

        /** Puts WORK w before those from w + 1 on that are done by this set. */
        private void widen(Borough of, int w, int set) {
            int rest = cost[SETS * (w + 1) + set];
            lower(SETS * w + set, rest);
            for (int p = 0; p < of.people; p++) {
                if ((set >> p & 1) == 0) {
                    lower(SETS * w + (set | 1 << p), rest + inchesFor(of, w, p));
                }
            }
        }

        private void lower(int at, int inches) {
            if (at >= 0 && at < cost.length) {
                cost[at] = Math.min(cost[at], inches);
            }
        }

        private static int inchesFor(Borough of, int w, int p) {
            return Math.max(0, of.reach[w] - of.inches[p]);
        }

        /** Who does a WORK, when those before it are done by the first by numbers who may. */
        int doer(Borough of, int work) {
            int used = 0;
            int left = most;
            int spend = fewest;
            int who = NOBODY;
            for (int w = 0; w <= work && w < of.works; w++) {
                who = firstFor(of, w, used, left, spend);
                if (who != NOBODY) {
                    used |= 1 << who;
                    left--;
                    spend -= inchesFor(of, w, who);
                }
            }
            return who;
        }

        private int firstFor(Borough of, int w, int used, int left, int spend) {
            for (int p = 0; p < of.people; p++) {
                if ((used >> p & 1) == 0
                        && goesOn(of, w + 1, used | 1 << p, left - 1, spend - inchesFor(of, w, p))) {
                    return p;
                }
            }
            return NOBODY;
        }

        /** Whether WORKS from w on can be done by so many others for just so many inches. */
        private boolean goesOn(Borough of, int w, int used, int left, int spend) {
            if (left < 0 || spend < 0) {
                return false;
            }
            int sets = 1 << of.people;
            for (int set = 0; set < sets; set++) {
                if ((set & used) == 0 && cost[SETS * w + set] == spend && Integer.bitCount(set) == left) {
                    return true;
                }
            }
            return false;
        }
    }

    /** CUT: by how much each DOOR is raised. */
    private static final class Raises {
        private static final int WIDTH = MOST_INCHES + 1;
        private static final int CHOICES = MOST_PEOPLE + 1;

        /** By DOOR and inches: the most couples of DOORS from this one on. */
        final int[] best = new int[(MOST_DOORS + 1) * WIDTH];
        /** The raises of one DOOR that let one more pass, none first, and who pass then. */
        final int[] step = new int[CHOICES];
        final int[] gain = new int[CHOICES];
        int choices;

        void plan(Borough of, int inches) {
            Arrays.fill(best, 0);
            for (int door = of.doors - 1; door >= 0; door--) {
                choose(of, door);
                for (int n = 0; n <= inches && n < WIDTH; n++) {
                    for (int k = 0; k < choices; k++) {
                        best[WIDTH * door + n] = Math.max(best[WIDTH * door + n], couples(door, n, k));
                    }
                }
            }
        }

        private void choose(Borough of, int door) {
            step[0] = 0;
            choices = 1;
            for (int p = 0; p < of.people; p++) {
                int raise = of.inches[p] - of.top[door];
                if ((of.pass[door] >> p & 1) != 0 && raise > 0 && choices < CHOICES) {
                    step[choices] = raise;
                    choices++;
                }
            }
            for (int k = 0; k < choices; k++) {
                gain[k] = passing(of, door, of.top[door] + step[k]);
            }
        }

        private static int passing(Borough of, int door, int top) {
            int many = 0;
            for (int p = 0; p < of.people; p++) {
                if ((of.pass[door] >> p & 1) != 0 && of.inches[p] <= top) {
                    many++;
                }
            }
            return many;
        }

        /** The couples when of n inches a DOOR takes its choice k, the later ones the rest; NONE: too few. */
        private int couples(int door, int n, int k) {
            if (step[k] > n) {
                return NONE;
            }
            return gain[k] + best[WIDTH * (door + 1) + n - step[k]];
        }

        int most(int inches) {
            return inches < 0 || inches >= WIDTH ? 0 : best[inches];
        }

        int raiseOf(Borough of, int inches, int which) {
            int left = inches;
            int raise = 0;
            for (int door = 0; door <= which && door < of.doors; door++) {
                choose(of, door);
                raise = leastRaise(door, left);
                left -= raise;
            }
            return raise;
        }

        private int leastRaise(int door, int left) {
            int least = NONE;
            for (int k = 0; k < choices; k++) {
                if (couples(door, left, k) == best[WIDTH * door + left] && (least == NONE || step[k] < least)) {
                    least = step[k];
                }
            }
            return Math.max(0, least);
        }
    }

    /** By a SIGHT: in how many rows of fines who did how many. */
    private static final class Guess {
        private static final int WIDTH = MOST_GUESSED + 1;
        private static final int LOSSES = MOST_GUESSED * MOST_FINE + 1;
        private static final int CLASH = -1;

        /** By how many fines, by inches lost: in how many orders of OFFENCES. */
        final long[] orders = new long[WIDTH * LOSSES];
        /** By PERSON, by how many fines: in how many orders of OFFENCES his end is as told. */
        final long[] alone = new long[MOST_PEOPLE * WIDTH];
        final long[] mixed = new long[WIDTH];
        final int[] seen = new int[MOST_PEOPLE];
        int people;

        /** False if a PERSON is told of who is not there. */
        boolean open(Borough of, Sight sight) {
            people = of.people;
            if (!gatherFacts(of, sight)) {
                return false;
            }
            countOrders(of);
            for (int p = 0; p < people; p++) {
                for (int k = 0; k < WIDTH; k++) {
                    alone[WIDTH * p + k] = ends(of.inches[p], seen[p], k);
                }
            }
            return true;
        }

        private boolean gatherFacts(Borough of, Sight sight) {
            Arrays.fill(seen, 0);
            for (int k = 0; k < sight.facts && k < MOST_FACTS; k++) {
                int p = sight.person[k];
                if (!of.has(p)) {
                    return false;
                }
                seen[p] = seen[p] == 0 || seen[p] == sight.tall[k] ? sight.tall[k] : CLASH;
            }
            return true;
        }

        private void countOrders(Borough of) {
            Arrays.fill(orders, 0);
            orders[0] = 1;
            for (int k = 1; k < WIDTH; k++) {
                for (int lost = 0; lost < LOSSES; lost++) {
                    for (int o = 0; o < OFFENCES; o++) {
                        int before = lost - of.fine[o];
                        if (before >= 0) {
                            orders[LOSSES * k + lost] += orders[LOSSES * (k - 1) + before];
                        }
                    }
                }
            }
        }

        private long ends(int first, int last, int k) {
            if (last == CLASH) {
                return 0;
            }
            int least = last == 0 ? 0 : first - last;
            int greatest = last == 0 ? first - 1 : first - last;
            long ways = 0;
            for (int lost = Math.max(0, least); lost <= greatest && lost < LOSSES; lost++) {
                ways += orders[LOSSES * k + lost];
            }
            return ways;
        }

        private static long choose(int n, int k) {
            if (k < 0 || k > n || n >= FACTORIAL.length) {
                return 0;
            }
            return FACTORIAL[n] / (FACTORIAL[k] * FACTORIAL[n - k]);
        }

        /** Mixes the fines of all but one (NONE: of all) into rows, by how many they are. */
        private void mix(int without) {
            Arrays.fill(mixed, 0);
            mixed[0] = 1;
            for (int p = 0; p < people; p++) {
                for (int n = MOST_GUESSED; n >= 0 && p != without; n--) {
                    long sum = 0;
                    for (int k = 0; k <= n; k++) {
                        sum += choose(n, k) * alone[WIDTH * p + k] * mixed[n - k];
                    }
                    mixed[n] = sum;
                }
            }
        }

        private boolean inRange(int n) {
            return n >= 0 && n <= MOST_GUESSED;
        }

        long ways(int n) {
            mix(NONE);
            return inRange(n) ? mixed[n] : 0;
        }

        long didJust(int person, int k, int n) {
            mix(person);
            return did(person, k, n);
        }

        /** To be asked when all but this PERSON are mixed. */
        private long did(int person, int k, int n) {
            if (!inRange(n) || k < 0 || k > n || person < 0 || person >= MOST_PEOPLE) {
                return 0;
            }
            return choose(n, k) * alone[WIDTH * person + k] * mixed[n - k];
        }

        int surely(int person, int n) {
            long all = ways(n);
            mix(person);
            for (int k = 0; k <= n && all > 0; k++) {
                if (did(person, k, n) == all) {
                    return k;
                }
            }
            return NONE;
        }

        int whomToAsk(int n) {
            if (ways(n) == 0) {
                return NONE;
            }
            int who = NONE;
            long least = 0;
            for (int p = 0; p < people; p++) {
                long greatest = greatestDid(p, n);
                if (who == NONE || greatest < least) {
                    who = p;
                    least = greatest;
                }
            }
            return who;
        }

        private long greatestDid(int person, int n) {
            mix(person);
            long greatest = 0;
            for (int k = 0; k <= n; k++) {
                greatest = Math.max(greatest, did(person, k, n));
            }
            return greatest;
        }
    }

    /** PEOPLE side by side, by their INCHES alone, and sets of them. */
    private static final class Crowd {
        final int[] rising = new int[MOST_PEOPLE];
        final int[] sum = new int[SETS];
        final long[] viewed = new long[MOST_PEOPLE + 1];

        private void lineUp(Borough of) {
            for (int p = 0; p < of.people; p++) {
                int at = p;
                while (at > 0 && rising[at - 1] > of.inches[p]) {
                    rising[at] = rising[at - 1];
                    at--;
                }
                rising[at] = of.inches[p];
            }
        }

        /** In a rising line the two least that suit each other may always be taken. */
        int couples(Borough of, int n) {
            lineUp(of);
            int couples = 0;
            int p = 0;
            while (p + 1 < of.people) {
                boolean suit = rising[p + 1] - rising[p] <= n;
                couples += suit ? 1 : 0;
                p += suit ? 2 : 1;
            }
            return couples;
        }

        /** EVEN: tries every least height, with n above it as the greatest. */
        int fewestMoved(Borough of, int n) {
            int all = 0;
            for (int p = 0; p < of.people; p++) {
                all += of.inches[p];
            }
            int fewest = of.people == 0 ? 0 : NONE;
            for (int low = 1; low <= MOST_INCHES; low++) {
                int high = Math.min(low + n, MOST_INCHES);
                if (of.people * low <= all && all <= of.people * high) {
                    int moved = movedInto(of, low, high);
                    fewest = fewest == NONE ? moved : Math.min(fewest, moved);
                }
            }
            return fewest;
        }

        private static int movedInto(Borough of, int low, int high) {
            int taken = 0;
            int added = 0;
            for (int p = 0; p < of.people; p++) {
                taken += Math.max(0, of.inches[p] - high);
                added += Math.max(0, low - of.inches[p]);
            }
            return Math.max(taken, added);
        }

        int hatInches(Borough of) {
            lineUp(of);
            int inches = 0;
            int height = 0;
            for (int p = 0; p < of.people; p++) {
                height = Math.max(height + 1, rising[p]);
                inches += height - rising[p];
            }
            return inches;
        }

        int highestHat(Borough of) {
            lineUp(of);
            int height = 0;
            for (int p = 0; p < of.people; p++) {
                height = Math.max(height + 1, rising[p]);
            }
            return height;
        }

        /**
         * VIEWS: those of one height come among the taller ones; one of them is taller than everybody
         * ahead just if one of them comes to the very front.
         */
        long orders(Borough of, int k) {
            lineUp(of);
            Arrays.fill(viewed, 0);
            viewed[0] = 1;
            int taller = 0;
            for (int group = 0; group < MOST_PEOPLE && taller < of.people; group++) {
                int like = likeOnes(of.people - taller - 1);
                int others = FACTORIAL[taller + like - 1] / FACTORIAL[taller];
                for (int seen = MOST_PEOPLE; seen >= 0; seen--) {
                    long before = seen == 0 ? 0 : viewed[seen - 1];
                    viewed[seen] = before * like * others + viewed[seen] * taller * others;
                }
                taller += like;
            }
            return k < 0 || k > MOST_PEOPLE ? 0 : viewed[k];
        }

        /** How many in the rising line, up to a place, are as tall as the one there. */
        private int likeOnes(int place) {
            int like = 1;
            while (like <= place && rising[place - like] == rising[place]) {
                like++;
            }
            return like;
        }

        private void addUp(int[] weight, int size) {
            sum[0] = 0;
            for (int k = 0; k < size && k < MOST_PEOPLE; k++) {
                for (int set = 0; set < 1 << k; set++) {
                    sum[set | 1 << k] = sum[set] + weight[k];
                }
            }
        }

        /** The fewest (bits; of several the least) who have so much together; NONE: by none. */
        int fewest(int[] weight, int size, int need) {
            addUp(weight, size);
            int best = NONE;
            for (int set = 0; set < 1 << size && set < SETS; set++) {
                if (sum[set] >= need && (best == NONE || Integer.bitCount(set) < Integer.bitCount(best))) {
                    best = set;
                }
            }
            return best;
        }

        private static boolean allGot(Ledger of, int set) {
            for (int k = 0; k < MOST_PEOPLE; k++) {
                if ((set >> k & 1) != 0 && of.got[k] == 0) {
                    return false;
                }
            }
            return true;
        }

        int exactWays(Ledger of) {
            addUp(of.got, MOST_PEOPLE);
            int ways = 0;
            for (int set = 0; set < SETS; set++) {
                if (sum[set] == of.owed && allGot(of, set)) {
                    ways++;
                }
            }
            return ways;
        }

        int firstExact(Ledger of) {
            addUp(of.got, MOST_PEOPLE);
            int first = NONE;
            for (int set = 0; set < SETS; set++) {
                if (sum[set] == of.owed && allGot(of, set) && (first == NONE || comesBefore(set, first))) {
                    first = set;
                }
            }
            return first;
        }

        /** By their numbers, one by one: of the two the set that has the least number the other has not. */
        private static boolean comesBefore(int set, int other) {
            int apart = set ^ other;
            return (set & apart & -apart) != 0;
        }

        int team(Borough of) {
            addUp(of.inches, of.people);
            int best = NONE;
            for (int set = 1; set < 1 << of.people; set += 2) {
                int many = Integer.bitCount(set);
                if (Math.abs(of.people - 2 * many) <= 1
                        && (best == NONE || difference(of, set) < difference(of, best))) {
                    best = set;
                }
            }
            return best;
        }

        /** Of a team and the others, when the sums of this BOROUGH have been added up. */
        int difference(Borough of, int team) {
            int all = (1 << of.people) - 1;
            if (team < 0 || team > all || all >= SETS) {
                return NONE;
            }
            return Math.abs(sum[all] - 2 * sum[team]);
        }
    }
}
