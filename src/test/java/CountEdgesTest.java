/** The boundary cases of promises 29, 31 and 32: LOSSES, CHECKS and counts; and an object's 512th call. */
public final class CountEdgesTest extends Edges {
    /** What LINE 0 of BOOK 0 of the town shows, four bytes each. */
    private static final int[] RIGHT = {0, 0, 0, 16, 0, 0, 0, 18, 0, 0, 0, 0, 0, 0, 0, 32};

    public static void main(String[] args) {
        lossIsRefused();
        lossOfTheLeastAndTheGreatest();
        lossNotBelowZero();
        lossOfCutLines();
        lossAsTheTreesAndWeightsAreNow();
        checkIsRefused();
        checkHasNotSoMany();
        checkOfACutLine();
        checkOfNoNumbers();
        checkOfRightNumbers();
        checkTellsTheFirstWrongOne();
        checkOfAllFourBytes();
        countOfEach();
        countOfOthers();
        countOfAFullTown();
        theFiveHundredAndTwelfthCall();
        end();
    }

    // ---- promise 29

    private static void lossIsRefused() {
        for (int no : beyond(0, 2)) {
            keeps("loss of BOOK " + no, Edges::town, TAPE, x -> x.loss(no), NONE);
        }
        for (int no : beyond(0, 3)) {
            keeps("loss of BOOK " + no + " of four", Edges::full, TAPE, x -> x.loss(no), NONE);
        }
    }

    private static void lossOfTheLeastAndTheGreatest() {
        TwoFit x = row(8);
        book(x, 0, 0, 0, 0, 0, 1, 2, 3, 4, 5, 6, 7);
        book(x, 1, 1, 1, 1, 0, 1, 2, 3, 4, 5, 6, 7);
        for (int c = 0; c < 4; c++) {
            x.weight(c, 99);
        }
        due("VALUES", x.loss(0), 0);
        due("ALL of eight, of four COLUMNS", x.loss(1), 47520);
        x.weight(3, 0);
        due("one weighs nothing", x.loss(1), 35640);
        keeps("loss", Edges::town, TAPE, y -> y.loss(0), 3 * 5 + 3);
        keeps("loss of one that is not SHOWN", Edges::town, TAPE, y -> y.loss(2), 0);
    }

    /** "(SIZE of what it shows less 1, not below 0)". */
    private static void lossNotBelowZero() {
        TwoFit x = row(2);
        x.upper(0, 0, 16);
        x.upper(0, 1, 16);
        book(x, 1, 0, 0, 0, 0, 1);
        due("SIZE 2", x.loss(0), 2);
        x.upper(0, 0, -1);
        due("SIZE 1", x.loss(0), 0);
        x.upper(0, 1, -1);
        due("SIZE 0", x.loss(0), 0);
    }

    private static void lossOfCutLines() {
        TwoFit x = row(4);
        x.upper(0, 0, 16);
        x.upper(0, 3, 16);
        book(x, 1, 0, 0, 0, 0, 1, 2);
        due("three", x.loss(0), 31);
        x.cut(0, 1);
        due("two", x.loss(0), 16);
        x.cut(0, 0);
        due("one", x.loss(0), 15);
        x.cut(0, 2);
        due("none", x.loss(0), 0);
    }

    private static void lossAsTheTreesAndWeightsAreNow() {
        TwoFit x = row(2);
        x.upper(0, 0, 16);
        book(x, 1, 0, 1, 0, 0);
        due("SIZE 1 and ALL", x.loss(0), 15);
        x.upper(0, 9, 16);
        x.upper(0, 8, 16);
        due("SIZE 3 and ALL", x.loss(0), 17);
        x.weight(0, 3);
        due("three times", x.loss(0), 21);
        x.weight(2, 2);
        due("ALL twice", x.loss(0), 36);
        x.weight(1, 99);
        due("a VALUE weighs nothing", x.loss(0), 36);
        x.show(0, false);
        due("not SHOWN", x.loss(0), 36);
    }

    // ---- promise 31

    private static void checkIsRefused() {
        for (int no : beyond(0, 2)) {
            keeps("check of BOOK " + no, Edges::town, RIGHT, x -> x.check(no, 0, 1), -2);
        }
        for (int no : beyond(0, 3)) {
            keeps("check of LINE " + no, Edges::town, RIGHT, x -> x.check(1, no, 1), -2);
            keeps("check of LINE " + no + " by none", Edges::town, RIGHT, x -> x.check(1, no, 0), -2);
        }
        for (int no : beyond(0, 4)) {
            keeps("check by " + no, Edges::town, RIGHT, x -> x.check(0, 0, no), -2);
        }
        due("by 2^30, whose bytes are none in 32 bits", townWithTape().check(0, 0, 1 << 30), -2);
        due("by -2^30", townWithTape().check(0, 0, -1 << 30), -2);
    }

    private static TwoFit townWithTape() {
        TwoFit x = town();
        feed(x, RIGHT);
        return x;
    }

    private static void checkHasNotSoMany() {
        for (int n = 1; n <= 4; n++) {
            int many = n;
            keeps("the tape has not " + n, Edges::town, EMPTY, x -> x.check(0, 0, many), -2);
        }
    }

    private static void checkOfACutLine() {
        for (int n = 0; n <= 4; n++) {
            int many = n;
            keeps("a CUT one by " + n, Edges::town, RIGHT, x -> x.check(0, 3, many), -2);
        }
    }

    private static void checkOfNoNumbers() {
        empties("by none of a tape", Edges::town, RIGHT, x -> x.check(0, 0, 0), NONE);
        empties("by none of no tape", Edges::town, EMPTY, x -> x.check(0, 0, 0), NONE);
    }

    private static void checkOfRightNumbers() {
        for (int n = 1; n <= 4; n++) {
            int many = n;
            empties("right by " + n, Edges::town, RIGHT, x -> x.check(0, 0, many), NONE);
        }
        empties("not of LINE 2", Edges::town, RIGHT, x -> x.check(0, 2, 4), 0);
        TwoFit x = townWithTape();
        x.swap(0, 0, 2, 0);
        due("not when it is SWAPPED", x.check(0, 0, 4), 0);
        feed(x, RIGHT);
        due("but of the other one", x.check(0, 2, 4), NONE);
        feed(x, RIGHT);
        x.upper(0, 16, -1);
        x.upper(0, 0, -1);
        due("what it shows stays", x.check(0, 2, 4), NONE);
    }

    /** "else the place of the first number that is not so": what comes behind it does not matter. */
    private static void checkTellsTheFirstWrongOne() {
        for (int kinds = 1; kinds < 16; kinds++) {
            int[] tape = RIGHT.clone();
            for (int c = 0; c < 4; c++) {
                tape[4 * c + 3] += kinds >> c & 1;
            }
            int first = Integer.numberOfTrailingZeros(kinds);
            for (int n = 0; n <= 4; n++) {
                int many = n;
                empties("wrong ones " + kinds + " by " + n, Edges::town, tape, x -> x.check(0, 0, many), first < n ? first : NONE);
            }
        }
    }

    private static void checkOfAllFourBytes() {
        for (int at = 0; at < 16; at++) {
            int[] tape = RIGHT.clone();
            tape[at] ^= 128;
            empties("byte " + at, Edges::town, tape, x -> x.check(0, 0, 4), at / 4);
            tape[at] = RIGHT[at] ^ 1;
            empties("byte " + at + " by 1", Edges::town, tape, x -> x.check(0, 0, 4), at / 4);
        }
        empties("-1", Edges::town, new int[] {255, 255, 255, 255}, x -> x.check(0, 0, 1), 0);
    }

    // ---- promise 32

    private static void countOfEach() {
        int[] whats = {0, 1, 2, 3, 4, 5, 10, 11, 12, 20, 21, 22, 23, 30, 31, 32, 33, 34, 35};
        int[] dues = {6, 3, 2, bits(0, 5), 20, bits(0, 1), 4, 4, 2, 5, 1, 1, 0, 0, 2, 0, 0, 3, 0};
        for (int n = 0; n < whats.length; n++) {
            int what = whats[n];
            keeps("count " + what, Edges::town, TAPE, x -> x.count(what), dues[n]);
        }
    }

    /** "NONE for others." */
    private static void countOfOthers() {
        for (int what = -50; what < 100; what++) {
            boolean is = what >= 0 && what <= 5 || what >= 10 && what <= 12 || what >= 20 && what <= 23 || what >= 30 && what <= 35;
            if (!is) {
                due("count " + what, town().count(what), NONE);
            }
        }
        int[] far = {Integer.MIN_VALUE, Integer.MIN_VALUE + 5, Integer.MIN_VALUE + 10, Integer.MAX_VALUE, Integer.MAX_VALUE - 20,
            1 << 16, 1 << 30, 256, 260, -256};
        for (int what : far) {
            due("count " + what, full().count(what), NONE);
        }
        keeps("count of BOOK 3 of three", Edges::town, TAPE, x -> x.count(13), NONE);
        keeps("count of PERSON 6 of six", Edges::town, TAPE, x -> x.count(36), NONE);
        due("BOOK 4 of four", full().count(14), NONE);
        due("COLUMN 4", full().count(24), NONE);
        due("PERSON 16 of 16", full().count(46), NONE);
        due("6", full().count(6), NONE);
        due("9", full().count(9), NONE);
        due("19", full().count(19), NONE);
        due("29", full().count(29), NONE);
    }

    private static void countOfAFullTown() {
        TwoFit x = full();
        feed(x, new int[200]);
        int[] whats = {0, 1, 2, 3, 4, 5, 10, 13, 20, 23, 30, 45};
        int[] dues = {16, 4, 40, 255, 200, 15, 8, 8, 1, 99, 0, 16};
        for (int n = 0; n < whats.length; n++) {
            due("count " + whats[n] + " of a full town", x.count(whats[n]), dues[n]);
        }
        x.cut(3, 7);
        due("CUT ones, too", x.count(13), 8);
    }

    // ---- "An object is used for at most 512 calls after it has been made"

    private static void theFiveHundredAndTwelfthCall() {
        TwoFit x = wide(4, 2);
        int calls = 6;
        while (calls < 508) {
            x.upper(0, 0, calls % 2 == 0 ? 16 : -1);
            calls++;
        }
        tell(x, 0, 0, 1, "p>1");
        calls += 2;
        due("the call before the last", x.questions(0, 0, 0, 0), 3);
        due("the 512th call", x.fits(0, 1, 1), bits(2, 3));
        due("so many calls", calls + 2, 512);
    }
}
