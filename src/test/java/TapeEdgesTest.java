/**
 * The document's boundary cases, sentence by sentence: promises 1 to 5 and 28 to 30, the tape, how
 * many texts there may be.
 */
public final class TapeEdgesTest {
    private static final int NONE = HeightFine.NONE;
    private static final int LEAST = Integer.MIN_VALUE;
    private static final int GREATEST = Integer.MAX_VALUE;
    private static final int BLANKS = 0x20202020;
    private static final int LEDGER = 2;
    private static final String[] A_TEXT = {"person 5;", "fine 1 lie;", "owed 5;", "tall 1 5;"};
    private static final String[] A_WRONG_TEXT = {"person 0;", "fine 8 lie;", "got 8 1;", "tall 1 0;"};
    private static final int[] WRONG_PLACE = {7, 5, 4, 7};
    private static final Check check = new Check();

    public static void main(String[] args) {
        theLastCall();
        aNewObject();
        twentyBytesComeBehind();
        allBytesCome();
        noMoreThanSixHundred();
        aRefusedFeedLeavesTheTape();
        aFullTapeIsRead();
        endHasTheFirstBytesAlone();
        endRefuses();
        theTapeIsTaken();
        aFurtherOne();
        inThePlaceOfOne();
        aFaultTellsNothing();
        noneSuch();
        asManyAsMayBe();
        noSuchSort();
        noTextIsReadThen();
        theFaultOfTheLatestText();
        anotherWhatOfTheFault();
        howManyOfASort();
        imagesFromNoughtToTwo();
        anImageIsAllThatIsTold();
        anImageStaysAsItIs();
        againWithoutImage();
        askingChangesNothing();
        check.finish();
    }

    private static HeightFine withLength(int length) {
        HeightFine x = new HeightFine();
        while (x.end(length) == NONE) {
            x.feed(BLANKS, BLANKS, BLANKS, BLANKS, BLANKS);
        }
        return x;
    }

    private static void lengthIs(String call, HeightFine x, int length) {
        check.due(call + ", the tape has no more", x.end(length + 1), NONE);
        check.due(call + ", the tape has so many", x.end(length), length);
    }

    private static void theLastCall() {
        check.sentence("What it is", "An object is used for at most 512 calls after it has been made");
        HeightFine x = new HeightFine();
        x.feed(0x6f776564, 0x20373b20, BLANKS, BLANKS, BLANKS);
        x.text(LEDGER, NONE);
        for (int call = 3; call < 512; call++) {
            x.feed(call, call, call, call, call);
        }
        check.due("the 512th call", x.ledger(0, 0), 7);
        HeightFine y = new HeightFine();
        for (int call = 1; call < 512; call++) {
            check.due("call " + call, y.image(call % 3), true);
        }
        check.due("the 512th call", y.feed(0, 0, 0, 0, 0), 20);
    }

    private static void aNewObject() {
        check.sentence("Terms", "The constants: `NONE = -1`: There is none.");
        check.due("NONE", HeightFine.NONE, -1);
        check.sentence("Promise 1", "No BOROUGHS, YEARS, LEDGERS, SIGHTS; no images.");
        HeightFine x = new HeightFine();
        check.dueToEach("count", x::count, 0, 0, 1, 2, 3);
        for (int k = 0; k < 3; k++) {
            check.due("again(" + k + ")", x.again(k), false);
        }
        check.due("the FAULT", x.fault(0), 0);
        check.due("its place", x.fault(1), NONE);
        lengthIs("new", x, 0);
        check.due("borough", x.borough(0, 0), -2);
        check.due("deed", x.deed(0, NONE, 0), -2);
        check.due("ledger", x.ledger(0, 0), -2);
        check.due("fact", x.fact(0, NONE, 0), -2);
    }

    /** A sign that can't be, alone among blanks, is a FAULT at its own place. */
    private static void twentyBytesComeBehind() {
        check.sentence("Promise 2", "The tape: twenty bytes come behind it, of each number the highest first: how many it has.");
        for (int before : new int[] {0, 1, 20, 579, 580}) {
            for (int k = 0; k < 20; k++) {
                HeightFine x = withLength(before);
                int[] five = {BLANKS, BLANKS, BLANKS, BLANKS, BLANKS};
                five[k / 4] ^= 1 << 24 - 8 * (k % 4);
                check.due("feed behind " + before, x.feed(five[0], five[1], five[2], five[3], five[4]), before + 20);
                check.due("text", x.text(LEDGER, NONE), NONE);
                check.due("the place of byte " + k + " behind " + before, x.fault(1), before + k);
            }
        }
    }

    private static void allBytesCome() {
        check.sentence("Promise 2", "twenty bytes come behind it, of each number the highest first: how many it has.");
        for (int sign = 0; sign < 256; sign++) {
            HeightFine x = new HeightFine();
            int four = sign << 24 | sign << 16 | sign << 8 | sign;
            check.due("feed of byte " + sign, x.feed(BLANKS, four, BLANKS, BLANKS, BLANKS), 20);
            boolean blank = sign == 10 || sign == 32;
            check.due("text with byte " + sign, x.text(LEDGER, NONE), blank ? 0 : NONE);
            check.due("the place of byte " + sign, x.fault(1), blank ? NONE : 4);
        }
        for (int any : new int[] {LEAST, -1, 0, GREATEST}) {
            check.due("feed of " + any, new HeightFine().feed(any, any, any, any, any), 20);
        }
    }

    private static void noMoreThanSixHundred() {
        check.sentence("Terms", "THE TAPE has at most 600 bytes.");
        HeightFine x = new HeightFine();
        for (int k = 1; k <= 30; k++) {
            check.due("feed " + k, x.feed(0, 0, 0, 0, 0), 20 * k);
        }
        check.due("feed 31", x.feed(0, 0, 0, 0, 0), NONE);
        check.sentence("Promise 2", "NONE, and nothing comes, if there would be more than 600.");
        for (int length = 570; length <= 600; length++) {
            int due = length <= 580 ? length + 20 : NONE;
            check.due("feed behind " + length, withLength(length).feed(0, 0, 0, 0, 0), due);
        }
    }

    private static void aRefusedFeedLeavesTheTape() {
        check.sentence("Promise 2", "NONE, and nothing comes, if there would be more than 600.");
        for (int length : new int[] {581, 590, 599, 600}) {
            HeightFine x = withLength(length);
            check.due("feed behind " + length, x.feed(-1, -1, -1, -1, -1), NONE);
            lengthIs("behind the feed", x, length);
            check.due("nothing but blanks", x.text(LEDGER, NONE), 0);
        }
        HeightFine x = withLength(581);
        x.feed(-1, -1, -1, -1, -1);
        x.end(580);
        check.due("there is room again", x.feed(BLANKS, BLANKS, BLANKS, BLANKS, BLANKS), 600);
        check.due("nothing but blanks", x.text(LEDGER, NONE), 0);
    }

    private static void aFullTapeIsRead() {
        check.sentence("Terms", "THE TAPE has at most 600 bytes.");
        String text = "got 0 1;" + " ".repeat(584) + "owed 99;";
        HeightFine x = new HeightFine();
        check.due("a text of 600 bytes", Check.tell(x, LEDGER, NONE, text), 0);
        check.due("its first line", x.ledger(0, 10), 1);
        check.due("its last line", x.ledger(0, 0), 99);
        check.faulty(LEDGER, " ".repeat(599) + ";", 1, 599);
        check.faulty(LEDGER, " ".repeat(592) + "owed 99 ", 1, 600);
        check.faulty(0, " ".repeat(592) + "poor 0; ", 4, 600);
    }

    private static void endHasTheFirstBytesAlone() {
        check.sentence("Promise 3", "The tape has its first n bytes alone: n.");
        String text = "owed 1;owed 2;owed 3;";
        for (int n = 0; n <= text.length(); n++) {
            HeightFine x = new HeightFine();
            Check.feed(x, text);
            check.due("end(" + n + ")", x.end(n), n);
            lengthIs("end(" + n + ")", x, n);
            boolean whole = n % 7 == 0;
            check.due("text of " + n, x.text(LEDGER, NONE), whole ? 0 : NONE);
            check.due("OWED by " + n, x.ledger(0, 0), whole ? n / 7 : -2);
        }
        HeightFine x = new HeightFine();
        Check.feed(x, text);
        x.end(5);
        x.feed(0x373b2020, BLANKS, BLANKS, BLANKS, BLANKS);
        check.due("what was cut off does not come back", x.text(LEDGER, NONE), 0);
        check.due("OWED", x.ledger(0, 0), 7);
    }

    private static void endRefuses() {
        check.sentence("Promise 3", "NONE if it has not so many, or n is below 0.");
        for (int length : new int[] {0, 1, 19, 20, 600}) {
            HeightFine x = withLength(length);
            check.dueToEach("end", x::end, NONE, -1, -2, LEAST, length + 1, length + 20, 601, GREATEST);
            check.due("the tape stays", x.end(length), length);
            check.due("0 is not below 0", x.end(0), 0);
            check.due("it has not so many now", x.end(length), length == 0 ? 0 : NONE);
        }
    }

    private static void theTapeIsTaken() {
        check.sentence("Promise 4", "The tape is taken (and is empty then) as a text of a sort");
        for (int sort = 0; sort < 4; sort++) {
            for (String text : new String[] {A_TEXT[sort], A_WRONG_TEXT[sort], "", " ".repeat(600)}) {
                HeightFine x = new HeightFine();
                Check.tell(x, sort, NONE, text);
                lengthIs("behind '" + text.trim() + "'", x, 0);
                check.due("a further text is of nothing", x.text(LEDGER, NONE), sort == LEDGER ? x.count(LEDGER) - 1 : 0);
                check.due("feed", x.feed(0, 0, 0, 0, 0), 20);
            }
        }
    }

    private static void aFurtherOne() {
        check.sentence("Promise 4", "a further one (at NONE)");
        for (int sort = 0; sort < 4; sort++) {
            HeightFine x = new HeightFine();
            check.due("the first of sort " + sort, Check.tell(x, sort, NONE, A_TEXT[sort]), 0);
            check.due("count", x.count(sort), 1);
            check.due("the second of sort " + sort, Check.tell(x, sort, NONE, A_TEXT[sort]), 1);
            check.due("count", x.count(sort), 2);
        }
        HeightFine x = new HeightFine();
        Check.tell(x, LEDGER, NONE, "owed 1;got 0 1;");
        Check.tell(x, LEDGER, NONE, "owed 2;");
        check.due("the first stays", x.ledger(0, 0), 1);
        check.due("the first stays", x.ledger(0, 10), 1);
        check.due("the second", x.ledger(1, 0), 2);
        check.due("the second has nothing of the first", x.ledger(1, 10), 0);
    }

    private static void inThePlaceOfOne() {
        check.sentence("Promise 4", "or in the place of one: its number.");
        for (int at = 0; at < 2; at++) {
            HeightFine x = new HeightFine();
            Check.tell(x, LEDGER, NONE, "owed 1;got 0 1;");
            Check.tell(x, LEDGER, NONE, "owed 2;got 0 2;");
            check.due("in the place of " + at, Check.tell(x, LEDGER, at, "owed 3;"), at);
            check.due("it is the new one", x.ledger(at, 0), 3);
            check.due("nothing of the old one", x.ledger(at, 10), 0);
            check.due("the other one stays", x.ledger(1 - at, 0), 2 - at);
            check.due("the other one stays", x.ledger(1 - at, 10), 2 - at);
            check.due("count", x.count(LEDGER), 2);
        }
        for (int sort = 0; sort < 4; sort++) {
            HeightFine x = new HeightFine();
            Check.tell(x, sort, NONE, A_TEXT[sort]);
            check.due("of nothing, in the place of sort " + sort, x.text(sort, 0), 0);
            check.due("count", x.count(sort), 1);
        }
    }

    private static void aFaultTellsNothing() {
        check.sentence("Promise 4", "NONE: a FAULT.");
        for (int sort = 0; sort < 4; sort++) {
            HeightFine x = new HeightFine();
            check.due("a wrong first one", Check.tell(x, sort, NONE, A_WRONG_TEXT[sort]), NONE);
            check.due("count", x.count(sort), 0);
            check.due("there is still none", x.text(sort, 0), -2);
            Check.tell(x, sort, NONE, A_TEXT[sort]);
            check.due("a wrong second one", Check.tell(x, sort, NONE, A_WRONG_TEXT[sort]), NONE);
            check.due("count", x.count(sort), 1);
            check.due("a wrong one in its place", Check.tell(x, sort, 0, A_WRONG_TEXT[sort]), NONE);
            check.due("count", x.count(sort), 1);
            check.due("the old BOROUGH stays", x.borough(0, 10), sort == 0 ? 5 : -2);
            check.due("the old YEAR stays", x.deed(0, 0, 1), sort == 1 ? 1 : -2);
            check.due("the old LEDGER stays", x.ledger(0, 0), sort == 2 ? 5 : -2);
            check.due("the old SIGHT stays", x.fact(0, 0, 1), sort == 3 ? 5 : -2);
        }
    }

    private static void noneSuch() {
        check.sentence("Promise 4", "-2: there is none such");
        for (int sort = 0; sort < 4; sort++) {
            for (int many = 0; many <= 2; many++) {
                HeightFine x = new HeightFine();
                for (int k = 0; k < many; k++) {
                    Check.tell(x, sort, NONE, A_TEXT[sort]);
                }
                for (int at : new int[] {-2, LEAST, many, many + 1, 2, GREATEST}) {
                    check.due("at " + at + " of " + many, Check.tell(x, sort, at, A_TEXT[sort]), -2);
                    check.due("count behind it", x.count(sort), many);
                    lengthIs("behind it", x, 0);
                }
                check.due("the last one there is", x.text(sort, many - 1), many == 2 ? 1 : 0);
            }
        }
    }

    private static void asManyAsMayBe() {
        check.sentence("Terms", "BOROUGHS, at most 2 (sort 0), YEARS, at most 2 (1), LEDGERS, at most 2 (2), SIGHTS,"
                + " at most 2 (3), from 0 on.");
        for (int sort = 0; sort < 4; sort++) {
            HeightFine x = new HeightFine();
            check.due("the first", x.text(sort, NONE), 0);
            check.due("the second", Check.tell(x, sort, NONE, A_TEXT[sort]), 1);
            check.due("the third", Check.tell(x, sort, NONE, A_TEXT[sort]), -2);
            check.due("count", x.count(sort), 2);
            check.due("the first stays empty", x.borough(0, 0) + x.deed(0, NONE, 0) + x.fact(0, NONE, 0)
                    + x.ledger(0, 0), -6);
            for (int other = 0; other < 4; other++) {
                check.due("another sort may still come", x.text(other, NONE), other == sort ? -2 : 0);
            }
        }
        check.sentence("Promise 4", "there are as many as may be");
        HeightFine x = new HeightFine();
        Check.tell(x, LEDGER, NONE, "owed 1;");
        Check.tell(x, LEDGER, NONE, "owed 2;");
        check.due("a third one", Check.tell(x, LEDGER, NONE, "owed 3;"), -2);
        check.due("the first stays", x.ledger(0, 0), 1);
        check.due("the second stays", x.ledger(1, 0), 2);
        lengthIs("behind it", x, 0);
        check.due("one in the place of the second", Check.tell(x, LEDGER, 1, "owed 4;"), 1);
        check.due("it is there", x.ledger(1, 0), 4);
    }

    private static void noSuchSort() {
        check.sentence("Promise 4", "or no such sort");
        HeightFine x = new HeightFine();
        for (int sort : new int[] {-1, -2, 4, 5, LEAST, GREATEST}) {
            for (int at : new int[] {NONE, 0, 1}) {
                check.due("text(" + sort + ", " + at + ")", Check.tell(x, sort, at, "owed 1;"), -2);
                lengthIs("behind it", x, 0);
            }
        }
        check.dueToEach("count", x::count, 0, 0, 1, 2, 3);
    }

    private static void noTextIsReadThen() {
        check.sentence("Promise 4", "(no text is read then, FAULT 0)");
        int[][] refused = {{4, NONE}, {-1, 0}, {0, 0}, {1, 1}, {3, -2}, {LEDGER, NONE}, {LEDGER, 2}};
        for (int[] one : refused) {
            HeightFine x = new HeightFine();
            x.text(LEDGER, NONE);
            x.text(LEDGER, NONE);
            check.due("a wrong text", Check.tell(x, LEDGER, 0, "owed 5;#"), NONE);
            check.due("its FAULT", x.fault(0), 1);
            check.due("its place", x.fault(1), 7);
            check.due("a refused one", Check.tell(x, one[0], one[1], "#"), -2);
            check.due("the FAULT then", x.fault(0), 0);
            check.due("its place then", x.fault(1), NONE);
            check.due("nothing is told", x.ledger(0, 0), 0);
        }
    }

    private static void theFaultOfTheLatestText() {
        check.sentence("Promise 5", "Of the latest text(), what 0: the FAULT, 0 without, 1: its place, NONE without.");
        for (int sort = 0; sort < 4; sort++) {
            HeightFine x = new HeightFine();
            Check.tell(x, sort, NONE, A_WRONG_TEXT[sort]);
            check.due("the FAULT", x.fault(0), 2);
            check.due("its place", x.fault(1), WRONG_PLACE[sort]);
            x.feed(BLANKS, BLANKS, BLANKS, BLANKS, BLANKS);
            x.end(3);
            x.end(99);
            x.borough(0, 0);
            x.image(0);
            check.due("the FAULT, no text later", x.fault(0), 2);
            check.due("its place, no text later", x.fault(1), WRONG_PLACE[sort]);
            x.text(sort, NONE);
            check.due("the FAULT of a good text", x.fault(0), 0);
            check.due("its place", x.fault(1), NONE);
            x.end(0);
            Check.tell(x, sort, 0, ";");
            check.due("the FAULT of the latest", x.fault(0), 1);
            check.due("a place of 0", x.fault(1), 0);
        }
    }

    private static void anotherWhatOfTheFault() {
        check.sentence("Promise 5", "NONE for another what.");
        HeightFine x = new HeightFine();
        check.dueToEach("fault, new", x::fault, NONE, -1, 2, 3, LEAST, GREATEST);
        Check.tell(x, LEDGER, NONE, "owed");
        check.dueToEach("fault", x::fault, NONE, -1, 2, 3, LEAST, GREATEST);
        check.due("the FAULT", x.fault(0), 1);
    }

    private static void howManyOfASort() {
        check.sentence("Promise 28", "How many there are of a sort. -2 for another one.");
        for (int sort = 0; sort < 4; sort++) {
            HeightFine x = new HeightFine();
            for (int many = 0; many <= 2; many++) {
                for (int other = 0; other < 4; other++) {
                    check.due("count(" + other + ")", x.count(other), other == sort ? many : 0);
                }
                x.text(sort, NONE);
            }
            check.due("no third one", x.count(sort), 2);
            check.dueToEach("count", x::count, -2, -1, -2, 4, 5, LEAST, GREATEST);
        }
    }

    private static void imagesFromNoughtToTwo() {
        check.sentence("Promise 29", "Image k (0 .. 2) is all that is told (the tape, the FAULT, too), as it is now:"
                + " true; false for another k.");
        HeightFine x = new HeightFine();
        for (int k : new int[] {-1, -2, 3, 4, LEAST, GREATEST}) {
            check.due("image(" + k + ")", x.image(k), false);
            check.due("again(" + k + ")", x.again(k), false);
        }
        for (int k = 0; k < 3; k++) {
            check.due("a refused one makes no image", x.again(k), false);
        }
        for (int k = 0; k < 3; k++) {
            check.due("image(" + k + ")", x.image(k), true);
            x.text(LEDGER, k == 0 ? NONE : 0);
            check.due("again(" + k + ")", x.again(k), true);
            check.due("there were no LEDGERS", x.count(LEDGER), 0);
            check.due("no further image", x.again(k + 1), false);
        }
    }

    private static void tellAll(HeightFine x, int mark) {
        String number = Integer.toString(mark);
        Check.tell(x, 0, NONE, "person " + number + ";poor 0;door 9;pass 0 0;work " + number + ";caught " + number
                + ";costs lie " + number + ";wish 0 speed " + number + ";person 1;child 1 0;");
        Check.tell(x, 1, NONE, "gift 0 1 " + number + ";");
        Check.tell(x, 2, NONE, "owed " + number + ";got 7 " + number + ";");
        Check.tell(x, 3, NONE, "tall 1 " + number + ";");
    }

    private static void allIsTold(String call, HeightFine x, int at, int mark) {
        int[] whats = {0, 1, 2, 3, 4, 10, 11, 20, 21, 31, 40, 50, 60, 72};
        int[] dues = {2, 1, mark, 1, 1, mark, 1, NONE, 0, mark, 9, 1, mark, mark};
        for (int k = 0; k < whats.length; k++) {
            check.due(call + ", borough what " + whats[k], x.borough(at, whats[k]), dues[k]);
        }
        check.due(call + ", DEEDS", x.deed(at, NONE, 0), 1);
        check.due(call + ", a DEED", x.deed(at, 0, 3), mark);
        check.due(call + ", OWED", x.ledger(at, 0), mark);
        check.due(call + ", GOT", x.ledger(at, 17), mark);
        check.due(call + ", FACTS", x.fact(at, NONE, 0), 1);
        check.due(call + ", a FACT", x.fact(at, 0, 1), mark);
    }

    private static void anImageIsAllThatIsTold() {
        check.sentence("Promise 30", "All that is as image k has it: true; false if there is none such.");
        HeightFine x = new HeightFine();
        tellAll(x, 3);
        check.due("image of one", x.image(1), true);
        tellAll(x, 4);
        Check.tell(x, LEDGER, 0, "owed 5;#");
        Check.feed(x, "owed 6;");
        check.due("image of two", x.image(2), true);
        for (int sort = 0; sort < 4; sort++) {
            x.text(sort, 0);
            x.text(sort, 1);
        }
        check.due("again(2)", x.again(2), true);
        allIsTold("the first behind again(2)", x, 0, 3);
        allIsTold("the second behind again(2)", x, 1, 4);
        check.due("the FAULT", x.fault(0), 1);
        check.due("its place", x.fault(1), 7);
        check.due("again(1)", x.again(1), true);
        check.dueToEach("count behind again(1)", x::count, 1, 0, 1, 2, 3);
        allIsTold("behind again(1)", x, 0, 3);
        check.due("no FAULT", x.fault(0), 0);
        check.due("no place", x.fault(1), NONE);
        lengthIs("behind again(1)", x, 0);
        check.due("again(2) once more", x.again(2), true);
        check.dueToEach("count behind again(2)", x::count, 2, 0, 1, 2, 3);
        lengthIs("behind again(2)", x, 7);
        check.due("the tape is taken", x.text(LEDGER, 1), 1);
        check.due("OWED by the tape", x.ledger(1, 0), 6);
    }

    private static void anImageStaysAsItIs() {
        check.sentence("Promise 29", "as it is now");
        HeightFine x = withLength(600);
        check.due("image of a full tape", x.image(0), true);
        x.end(0);
        tellAll(x, 2);
        check.due("again", x.again(0), true);
        check.due("a full tape", x.feed(0, 0, 0, 0, 0), NONE);
        check.due("its length", x.end(600), 600);
        check.dueToEach("count", x::count, 0, 0, 1, 2, 3);
        check.due("its bytes", x.text(LEDGER, NONE), 0);
        check.due("image in the place of an image", x.image(0), true);
        Check.tell(x, LEDGER, 0, "owed 9;");
        check.due("again", x.again(0), true);
        check.due("one LEDGER", x.count(LEDGER), 1);
        check.due("OWED as it was", x.ledger(0, 0), 0);
        lengthIs("behind again", x, 0);
    }

    private static void againWithoutImage() {
        check.sentence("Promise 30", "false if there is none such.");
        HeightFine x = new HeightFine();
        tellAll(x, 6);
        Check.tell(x, LEDGER, NONE, "owed 5;#");
        x.feed(BLANKS, BLANKS, BLANKS, BLANKS, BLANKS);
        x.image(1);
        x.end(0);
        tellAll(x, 7);
        Check.tell(x, 3, 0, "tall 8 1;");
        x.feed(BLANKS, BLANKS, BLANKS, BLANKS, BLANKS);
        for (int k : new int[] {-1, 0, 2, 3, LEAST, GREATEST}) {
            check.due("again(" + k + ")", x.again(k), false);
        }
        allIsTold("the first stays", x, 0, 6);
        check.due("the FAULT stays", x.fault(0), 2);
        check.due("its place stays", x.fault(1), 5);
        lengthIs("the tape stays", x, 20);
        check.dueToEach("count", x::count, 2, 0, 1, 2, 3);
        allIsTold("the second stays", x, 1, 7);
        check.due("the image that there is", x.again(1), true);
        check.dueToEach("count", x::count, 1, 0, 1, 2, 3);
        check.due("its FAULT", x.fault(0), 1);
        lengthIs("its tape", x, 20);
    }

    private static void ask(HeightFine x, int a, int b, int c) {
        x.fault(a);
        x.borough(a, b);
        x.deed(a, b, c);
        x.stop(a, b);
        x.state(a, b, c, a);
        x.reached(a, b, c);
        x.cut(a, b, c);
        x.love(a, b, c > 0);
        x.dares(a, b, c, a);
        x.share(a, b, c, a);
        x.elder(a, b, c);
        x.ledger(a, b);
        x.fact(a, b, c);
        x.rows(a, b, c, a, b);
        x.sure(a, b, c, a);
        x.drawn(a, b, c, a);
        x.family(a, b, c);
        x.views(a, b);
        x.shoulders(a, b);
        x.hats(a, c > 0);
        x.teams(a, c > 0);
        x.assumed(a, b, c);
        x.settled(a, b, c);
        x.count(a);
    }

    /** Whether it is answered or refused: what is told, the tape and the FAULT stay. */
    private static void askingChangesNothing() {
        check.sentence("Not promised", "Nothing is promised beyond the answers and state changes described above");
        HeightFine x = new HeightFine();
        tellAll(x, 5);
        tellAll(x, 8);
        Check.tell(x, LEDGER, 0, "owed 5;#");
        Check.feed(x, "owed 9;");
        int[][] asked = {{0, 0, 0}, {0, 1, 1}, {1, 1, 1}, {1, 0, 2}, {0, 10, 1}, {1, 20, 3}, {-1, -1, -1}, {2, 2, 2},
            {LEAST, LEAST, LEAST}, {GREATEST, GREATEST, GREATEST}};
        for (int[] one : asked) {
            ask(x, one[0], one[1], one[2]);
        }
        allIsTold("the first", x, 0, 5);
        allIsTold("the second", x, 1, 8);
        check.due("the FAULT", x.fault(0), 1);
        check.due("its place", x.fault(1), 7);
        check.dueToEach("count", x::count, 2, 0, 1, 2, 3);
        check.due("no image", x.again(0), false);
        lengthIs("the tape", x, 7);
        check.due("its text", x.text(LEDGER, 1), 1);
        check.due("OWED by it", x.ledger(1, 0), 9);
    }
}
