import java.util.function.IntToLongFunction;

/** What the tests share: telling texts to an object, and comparing answers with those due. */
final class Check {
    static final int NONE = HeightFine.NONE;

    /** The BOROUGH, YEAR, LEDGER and SIGHT that most tests speak of. */
    static final String BOROUGH = "person 20;person 15;person 9;person 4;child 3 2;child 2 1;child 0 1;"
            + "poor 2;poor 3;wish 0 theft 4;wish 1 theft 2;wish 3 theft 1;door 10;door 16;"
            + "pass 0 0;pass 1 0;pass 2 0;pass 0 1;pass 1 1;work 18;work 12;work 22;";
    static final String YEAR = "fine 0 theft;give 3 5;bail 3 lie;gift 1 2 4;stretch 0 9;stretch 3 3;"
            + "fine 2 theft;give 2 9;fine 3 speed;give 3 9;";
    static final String LEDGER = "owed 7;got 0 3;got 2 4;got 5 7;got 6 2;";
    static final String SIGHT = "tall 0 14;tall 3 4;";

    private int wrong;
    private Document document;
    private String sentence = "";

    /** By which words of the document the next answers are due: they must stand in that part of it. */
    void sentence(String part, String words) {
        if (document == null) {
            document = new Document();
        }
        if (document.find(part, words) < 0) {
            wrong++;
            System.out.println("'" + part + "' of the document does not say: " + words);
        }
        sentence = part + ", '" + words + "': ";
    }

    void due(String call, long got, long want) {
        if (got != want) {
            wrong++;
            System.out.println(sentence + call + " answered " + got + ", due is " + want);
        }
    }

    /** One answer is due to each of these arguments. */
    void dueToEach(String call, IntToLongFunction asked, int want, int... arguments) {
        for (int one : arguments) {
            due(call + " of " + one, asked.applyAsLong(one), want);
        }
    }

    void due(String call, boolean got, boolean want) {
        due(call, got ? 1 : 0, want ? 1 : 0);
    }

    void finish() {
        if (wrong != 0) {
            System.out.println(wrong + " answers are not as due");
            System.exit(1);
        }
    }

    /** Puts a text on the tape, which must be empty. */
    static void feed(HeightFine x, String text) {
        for (int at = 0; at < text.length(); at += 20) {
            int[] five = new int[5];
            for (int k = 0; k < 20; k++) {
                int sign = at + k < text.length() ? text.charAt(at + k) : ' ';
                five[k / 4] = five[k / 4] << 8 | sign & 255;
            }
            if (x.feed(five[0], five[1], five[2], five[3], five[4]) == NONE) {
                throw new IllegalStateException("the tape is too short for the test's text");
            }
        }
        if (x.end(text.length()) != text.length()) {
            throw new IllegalStateException("end() did not answer as the test needs it");
        }
    }

    static int tell(HeightFine x, int sort, int at, String text) {
        feed(x, text);
        return x.text(sort, at);
    }

    static HeightFine withBorough(String text) {
        HeightFine x = new HeightFine();
        if (tell(x, 0, NONE, text) != 0) {
            throw new IllegalStateException("the test's BOROUGH has FAULT " + x.fault(0) + " at " + x.fault(1));
        }
        return x;
    }

    /** A text with a FAULT: what text() and fault() answer. */
    void faulty(int sort, String text, int fault, int place) {
        HeightFine x = new HeightFine();
        String call = "sort " + sort + " '" + text.replace('\n', '/') + "' ";
        due(call + "text", tell(x, sort, NONE, text), fault == 0 ? 0 : NONE);
        due(call + "fault(0)", x.fault(0), fault);
        due(call + "fault(1)", x.fault(1), place);
        due(call + "count", x.count(sort), fault == 0 ? 1 : 0);
        due(call + "the tape is empty", x.end(1), NONE);
    }

    void good(int sort, String text) {
        faulty(sort, text, 0, NONE);
    }

    static String times(int n, String text) {
        StringBuilder all = new StringBuilder();
        for (int k = 0; k < n; k++) {
            all.append(text);
        }
        return all.toString();
    }
}
