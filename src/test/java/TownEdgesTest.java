/** The boundary cases of promises 1 to 8: a new object, TREES, WEIGHTS, PEOPLE, WISHES and the tape. */
public final class TownEdgesTest extends Edges {
    public static void main(String[] args) {
        noneIsMinusOne();
        aNewObjectHasNobody();
        aNewObjectHasNoBooksGossipsLinks();
        aNewObjectHasNoTape();
        inANewObjectNoNodeHasAnUpper();
        aNewObjectHasItsFirstWeightsAndWishes();
        memoryIsTheTownsOwn();
        anUpperOfTheLeastAndTheGreatest();
        anUpperIsOfAHigherNumber();
        anUpperIsRefused();
        anUpperIsReplacedAndTaken();
        theLongestWayUp();
        aWeightOfTheLeastAndTheGreatest();
        aWeightIsRefused();
        aPersonOfTheLeastAndTheGreatest();
        aPersonIsRefused();
        sixteenPeopleAreThere();
        aWishOfTheLeastAndTheGreatest();
        aWishIsRefused();
        theTapeIsFilled();
        theTapeIsFull();
        theHighestByteComesFirst();
        behindTheTape();
        blurredByEach();
        whatIsAllStaysAll();
        blurredIsRefused();
        sizesOfEach();
        sizeIsRefused();
        askingChangesNothing();
        end();
    }

    // ---- promise 1

    private static void noneIsMinusOne() {
        due("NONE", TwoFit.NONE, -1);
    }

    private static void aNewObjectHasNobody() {
        TwoFit x = new TwoFit();
        due("PEOPLE of a new object", x.count(0), 0);
        for (int p = 0; p < 16; p++) {
            int nobody = p;
            due("the WISH of nobody", x.count(30 + p), NONE);
            keeps("a WISH of nobody", TwoFit::new, TAPE, y -> of(y.wish(nobody, 1)), NO);
        }
        due("the first PERSON", x.person(15, 15, 15, 15), 0);
        due("its WISH at first", x.count(30), 0);
        empties("a BOOK of nobody", TwoFit::new, TAPE, y -> y.book(1, 0, 0, 0, 0), -2);
        empties("BLURRING of nobody", TwoFit::new, TAPE, y -> y.blurring(1, 1, 0, 0), -2);
    }

    private static void aNewObjectHasNoBooksGossipsLinks() {
        TwoFit x = new TwoFit();
        due("BOOKS", x.count(1), 0);
        due("LINKS", x.count(2), 0);
        due("told GOSSIPS", x.count(3), 0);
        due("SHOWN BOOKS", x.count(5), 0);
        for (int b = 0; b < 4; b++) {
            due("LINES of no BOOK", x.count(10 + b), NONE);
        }
        keeps("line", TwoFit::new, TAPE, y -> y.line(0, 0, 4), NONE);
        keeps("cut", TwoFit::new, TAPE, y -> of(y.cut(0, 0)), NO);
        keeps("swap", TwoFit::new, TAPE, y -> of(y.swap(0, 0, 1, 0)), NO);
        keeps("show", TwoFit::new, TAPE, y -> of(y.show(0, false)), NO);
        keeps("show what is not there", TwoFit::new, TAPE, y -> of(y.show(0, true)), NO);
        keeps("link", TwoFit::new, TAPE, y -> y.link(0, 0, 1, 0), NONE);
        keeps("gossip", TwoFit::new, TAPE, y -> y.gossip(0, 0, 0, 1), NONE);
        keeps("check", TwoFit::new, TAPE, y -> y.check(0, 0, 0), -2);
        keeps("together", TwoFit::new, TAPE, y -> y.together(1, 0), -2);
        keeps("loss", TwoFit::new, TAPE, y -> y.loss(0), NONE);
        keeps("fits", TwoFit::new, TAPE, y -> y.fits(0, 0, 0), NONE);
        keeps("givings", TwoFit::new, TAPE, y -> y.givings(0, 0), NONE);
        keeps("odds", TwoFit::new, TAPE, y -> y.odds(0, 0, 0, 0, 0), NONE);
        keeps("mustBe", TwoFit::new, TAPE, y -> y.mustBe(0, 0, 0, 0), NONE);
        keeps("giving", TwoFit::new, TAPE, y -> y.giving(0, 0, 0), NONE);
        keeps("tooFew", TwoFit::new, TAPE, y -> y.tooFew(0, 0), NONE);
        keeps("steps", TwoFit::new, TAPE, y -> y.steps(0, 0, 8), NONE);
        keeps("safe", TwoFit::new, TAPE, y -> y.safe(0, 1, 0), NONE);
        keeps("fewest", TwoFit::new, TAPE, y -> y.fewest(0, 0, 0), NONE);
        keeps("questions", TwoFit::new, TAPE, y -> y.questions(0, 0, 0, 0), NONE);
        keeps("bestSwap", TwoFit::new, TAPE, y -> y.bestSwap(0, 1, 0), NONE);
        keeps("linesOf", TwoFit::new, TAPE, y -> y.linesOf(0, 0, 0), NONE);
    }

    private static void aNewObjectHasNoTape() {
        due("bytes", new TwoFit().count(4), 0);
        due("the first twenty", new TwoFit().feed(-1, -1, -1, -1, -1), 20);
        TwoFit x = row(1);
        due("a BOOK by no tape", x.book(1, 0, 0, 0, 0), NONE);
        due("BLURRING by no tape", x.blurring(1, 1, 0, 0), -3);
    }

    private static void inANewObjectNoNodeHasAnUpper() {
        for (int c = 0; c < 4; c++) {
            TwoFit x = new TwoFit();
            for (int value = 0; value < 16; value++) {
                due("blurred by 0", x.blurred(c, value, 0), value);
                due("blurred by 1", x.blurred(c, value, 1), 32);
                due("blurred by 4", x.blurred(c, value, 4), 32);
                due("SIZE of a VALUE", x.size(c, value), 1);
            }
            for (int node = 16; node < 32; node++) {
                due("SIZE of a NODE above", x.size(c, node), 0);
                x.upper(c, 0, node);
                due("it is above", x.blurred(c, 0, 1), node);
                due("nothing is above it", x.blurred(c, 0, 2), 32);
            }
            due("SIZE of ALL", x.size(c, 32), 16);
        }
    }

    private static void aNewObjectHasItsFirstWeightsAndWishes() {
        TwoFit x = row(16);
        for (int c = 0; c < 4; c++) {
            due("WEIGHT", x.count(20 + c), 1);
        }
        for (int p = 0; p < 16; p++) {
            due("WISH", x.count(30 + p), 0);
        }
    }

    /** "All memory is the town's own." */
    private static void memoryIsTheTownsOwn() {
        for (int part = 0; part < parts(); part++) {
            TwoFit before = new TwoFit();
            TwoFit full = full();
            due("a new town beside a full one is new", alike(before, new TwoFit(), part), true);
            due("the full one stays full", alike(full, full(), part), true);
        }
        TwoFit one = wide(4, 2);
        TwoFit other = wide(4, 2);
        tell(one, 0, 0, 0, "p=1");
        tell(other, 0, 0, 0, "p=2");
        due("a GOSSIP of one town", one.fits(0, 0, 1), bits(1));
        due("a GOSSIP of the other", other.fits(0, 0, 1), bits(2));
        due("QUESTIONS of one", one.questions(0, 1, 0, 0), 3);
        other.upper(0, 0, 16);
        other.upper(0, 1, 16);
        due("QUESTIONS of the other", other.questions(0, 1, 0, 0), 2);
        due("QUESTIONS of one again", one.questions(0, 1, 0, 0), 3);
    }

    // ---- promise 2

    private static void anUpperOfTheLeastAndTheGreatest() {
        TwoFit x = new TwoFit();
        due("of COLUMN 0, NODE 0: the least", x.upper(0, 0, 16), true);
        due("of COLUMN 3, VALUE 15: the least", x.upper(3, 15, 16), true);
        due("of VALUE 14: the greatest", x.upper(3, 14, 31), true);
        due("of NODE 16", x.upper(3, 16, 17), true);
        due("of NODE 30", x.upper(3, 30, 31), true);
        due("none of NODE 31", x.upper(3, 31, -1), true);
        due("none of NODE 0", x.upper(1, 0, -1), true);
        due("VALUE 0", x.blurred(0, 0, 1), 16);
        due("VALUE 15", x.blurred(3, 15, 1), 16);
        due("VALUE 15, two steps", x.blurred(3, 15, 2), 17);
        due("VALUE 14", x.blurred(3, 14, 1), 31);
        due("VALUE 14, two steps", x.blurred(3, 14, 2), 32);
        due("other VALUES stay", x.blurred(0, 15, 1), 32);
        due("other COLUMNS stay", x.blurred(2, 15, 1), 32);
    }

    /** "false: .. it is not of a higher number." */
    private static void anUpperIsOfAHigherNumber() {
        for (int node = 16; node < 32; node++) {
            int same = node;
            keeps("itself above " + node, Edges::town, TAPE, x -> of(x.upper(2, same, same)), NO);
            keeps("one lower above " + node, Edges::town, TAPE, x -> of(x.upper(2, same, same - 1)), NO);
            due("one higher above " + node, new TwoFit().upper(2, node, node + 1), node < 31);
        }
        keeps("the lowest above the highest", Edges::town, TAPE, x -> of(x.upper(0, 31, 16)), NO);
    }

    private static void anUpperIsRefused() {
        for (int no : beyond(0, 3)) {
            keeps("upper in COLUMN " + no, Edges::town, TAPE, x -> of(x.upper(no, 0, 17)), NO);
        }
        for (int no : beyond(0, 31)) {
            keeps("upper of NODE " + no, Edges::town, TAPE, x -> of(x.upper(0, no, 31)), NO);
            keeps("no upper of NODE " + no, Edges::town, TAPE, x -> of(x.upper(0, no, -1)), NO);
        }
        for (int no : new int[] {-2, 0, 1, 15, 32, 33, Integer.MIN_VALUE, Integer.MAX_VALUE}) {
            keeps("upper " + no, Edges::town, TAPE, x -> of(x.upper(0, 0, no)), NO);
            keeps("upper of a NODE above " + no, Edges::town, TAPE, x -> of(x.upper(0, 16, no)), NO);
        }
        keeps("all of it is wrong", Edges::town, TAPE, x -> of(x.upper(4, 32, 32)), NO);
    }

    /** "The UPPER of a NODE (NONE: none)". */
    private static void anUpperIsReplacedAndTaken() {
        keeps("the same again", Edges::town, TAPE, x -> of(x.upper(0, 0, 16)), YES);
        keeps("none where none is", Edges::town, TAPE, x -> of(x.upper(0, 20, -1)), YES);
        TwoFit x = town();
        due("another one", x.upper(0, 16, 31), true);
        due("is above now", x.blurred(0, 0, 2), 31);
        due("its SIZE", x.size(0, 31), 2);
        due("SIZE of the one before", x.size(0, 20), 2);
        due("SIZE of the NODE itself", x.size(0, 16), 2);
        due("none", x.upper(0, 16, -1), true);
        due("ALL is above now", x.blurred(0, 0, 2), 32);
        due("SIZE when none is", x.size(0, 31), 0);
        due("the steps below stay", x.blurred(0, 0, 1), 16);
    }

    /** All 16 NODES above stand on one way: each is of a higher number than the one below it. */
    private static void theLongestWayUp() {
        TwoFit x = row(16);
        book(x, 4, 0, 0, 0, 15);
        due("as ALL", x.fits(0, 0, 0), 65535);
        for (int node = 16; node < 31; node++) {
            due("on the way", x.upper(0, node, node + 1), true);
        }
        x.upper(0, 15, 16);
        for (int node = 16; node < 32; node++) {
            due("SIZE on the way", x.size(0, node), 1);
        }
        x.upper(0, 3, 31);
        due("SIZE at its top", x.size(0, 31), 2);
        due("SIZE below the top", x.size(0, 30), 1);
        book(x, 4, 0, 0, 0, 15);
        due("four steps", x.line(1, 0, 0), 19);
        due("who FITS there", x.fits(1, 0, 0), bits(15));
        book(x, 1, 0, 0, 0, 3);
        due("the top", x.line(2, 0, 0), 31);
        due("who FITS at the top, by sixteen steps too", x.fits(2, 0, 0), bits(3, 15));
        x.upper(0, 24, -1);
        due("when the way is broken", x.fits(2, 0, 0), bits(3));
    }

    // ---- promise 3

    private static void aWeightOfTheLeastAndTheGreatest() {
        TwoFit x = new TwoFit();
        due("0 of COLUMN 0", x.weight(0, 0), true);
        due("99 of COLUMN 3", x.weight(3, 99), true);
        int[] weights = {0, 1, 1, 99};
        for (int c = 0; c < 4; c++) {
            due("WEIGHT of COLUMN " + c, x.count(20 + c), weights[c]);
        }
        keeps("the same again", Edges::town, TAPE, y -> of(y.weight(0, 5)), YES);
    }

    private static void aWeightIsRefused() {
        for (int no : beyond(0, 3)) {
            keeps("weight of COLUMN " + no, Edges::town, TAPE, x -> of(x.weight(no, 7)), NO);
        }
        for (int no : beyond(0, 99)) {
            keeps("weight " + no, Edges::town, TAPE, x -> of(x.weight(1, no)), NO);
        }
    }

    // ---- promise 4

    private static void aPersonOfTheLeastAndTheGreatest() {
        TwoFit x = new TwoFit();
        due("of the least VALUES", x.person(0, 0, 0, 0), 0);
        due("of the greatest VALUES", x.person(15, 15, 15, 15), 1);
        due("of VALUES as another's", x.person(15, 15, 15, 15), 2);
        due("of four VALUES", x.person(1, 2, 3, 4), 3);
        book(x, 0, 0, 0, 0, 3, 2, 0);
        for (int c = 0; c < 4; c++) {
            due("VALUE of 3", x.line(0, 0, c), 1 + c);
            due("VALUE of 2", x.line(0, 1, c), 15);
            due("VALUE of 0", x.line(0, 2, c), 0);
        }
        due("who has such VALUES", x.fits(0, 1, 0), bits(1, 2));
    }

    private static void aPersonIsRefused() {
        for (int no : beyond(0, 15)) {
            keeps("VALUE " + no + " of COLUMN 0", Edges::town, TAPE, x -> x.person(no, 0, 0, 0), NONE);
            keeps("VALUE " + no + " of COLUMN 1", Edges::town, TAPE, x -> x.person(0, no, 0, 0), NONE);
            keeps("VALUE " + no + " of COLUMN 2", Edges::town, TAPE, x -> x.person(0, 0, no, 0), NONE);
            keeps("VALUE " + no + " of COLUMN 3", Edges::town, TAPE, x -> x.person(0, 0, 0, no), NONE);
        }
        keeps("a NODE that is above", Edges::town, TAPE, x -> x.person(16, 0, 0, 0), NONE);
    }

    private static void sixteenPeopleAreThere() {
        TwoFit x = new TwoFit();
        for (int p = 0; p < 16; p++) {
            due("PERSON", x.person(p, 0, 0, 0), p);
            due("so many are there", x.count(0), p + 1);
        }
        due("a seventeenth", x.person(0, 0, 0, 0), NONE);
        keeps("a seventeenth of a full town", Edges::full, TAPE, y -> y.person(0, 0, 0, 0), NONE);
        keeps("a seventeenth of no such VALUES", Edges::full, TAPE, y -> y.person(16, 0, 0, 0), NONE);
    }

    // ---- promise 5

    private static void aWishOfTheLeastAndTheGreatest() {
        TwoFit x = row(16);
        due("16 of PERSON 15", x.wish(15, 16), true);
        due("1 of PERSON 0", x.wish(0, 1), true);
        due("is 16", x.count(45), 16);
        due("is 1", x.count(30), 1);
        due("none of another one", x.count(31), 0);
        due("0 again", x.wish(15, 0), true);
        due("is 0", x.count(45), 0);
        keeps("the same again", Edges::town, TAPE, y -> of(y.wish(1, 2)), YES);
    }

    private static void aWishIsRefused() {
        for (int no : beyond(0, 5)) {
            keeps("wish of PERSON " + no, Edges::town, TAPE, x -> of(x.wish(no, 1)), NO);
        }
        for (int no : beyond(0, 15)) {
            keeps("wish of PERSON " + no + " of 16", Edges::full, TAPE, x -> of(x.wish(no, 1)), NO);
        }
        for (int no : beyond(0, 16)) {
            keeps("wish " + no, Edges::town, TAPE, x -> of(x.wish(1, no)), NO);
        }
    }

    // ---- promise 6

    private static void theTapeIsFilled() {
        TwoFit x = new TwoFit();
        for (int n = 1; n <= 10; n++) {
            due("bytes", x.feed(n, n, n, n, n), 20 * n);
            due("so many are told", x.count(4), 20 * n);
        }
        due("more than 200", x.feed(1, 2, 3, 4, 5), NONE);
        due("200 stay", x.count(4), 200);
        due("and again", x.feed(1, 2, 3, 4, 5), NONE);
    }

    private static void theTapeIsFull() {
        int[] people = new int[200];
        people[1] = 1;
        people[2] = 2;
        keeps("more than 200 behind PEOPLE", Edges::town, people, x -> x.feed(-1, -1, -1, -1, -1), NONE);
        StringBuilder text = new StringBuilder("a=0");
        while (text.length() < 200) {
            text.append(text.length() % 2 == 1 ? '+' : '0');
        }
        text.setCharAt(98, '9');
        text.setCharAt(99, '9');
        keeps("more than 200 behind a TEXT", Edges::town, bytes(text.toString()), x -> x.feed(0, 0, 0, 0, 0), NONE);
        TwoFit x = wide(3, 1);
        feed(x, bytes(text.toString()));
        x.feed(0, 0, 0, 0, 0);
        due("a TEXT of a full tape", x.gossip(0, 0, 0, 100), 1);
        due("empty then", x.count(4), 0);
        due("room for twenty again", x.feed(0, 0, 0, 0, 0), 20);
    }

    /** "the highest of each int first": of all five, and each byte is 0 to 255. */
    private static void theHighestByteComesFirst() {
        TwoFit x = wide(4, 1);
        x.feed(0x613d3061, 0x00616161, 0x30303030, 0x2b303030, 0x2b306161);
        due("a=0", x.gossip(0, 0, 0, 3), 1);
        x.feed(0x613d302b, 0x302b302b, 0x302b302b, 0x302b302b, 0x302b3078);
        due("all but the last byte", x.gossip(0, 0, 0, 19), 1);
        x.feed(0x613d302b, 0x302b302b, 0x302b302b, 0x302b302b, 0x302b3078);
        due("the last byte", x.gossip(0, 0, 0, 20), -1019);
        x.feed(0x00010203, -1, Integer.MIN_VALUE, Integer.MAX_VALUE, 0);
        due("four PEOPLE", x.book(4, 0, 0, 0, 0), 1);
        for (int i = 0; i < 4; i++) {
            due("byte " + i, x.line(1, i, 4), i);
        }
        x.feed(0x03ffffff, 0, 0, 0, 0);
        due("byte 255 behind the first", x.book(1, 0, 0, 0, 0), 2);
        due("of 3", x.line(2, 0, 4), 3);
        x.feed(-1, 0, 0, 0, 0);
        due("byte 255 is nobody", x.book(1, 0, 0, 0, 0), -2);
        x.feed(0x80000000, 0, 0, 0, 0);
        due("byte 128 is nobody", x.book(1, 0, 0, 0, 0), -2);
        x.feed(32, 0, 0, 0, -1);
        due("a number as it was told", x.check(0, 0, 4), -1);
        x.feed(-32, 0, 0, 0, -1);
        due("a number below 0", x.check(0, 0, 4), 0);
        x.feed(32, 0, 0, 0x20000000, 0);
        due("a fourth number", x.check(0, 0, 4), 3);
    }

    /** "Twenty bytes come behind the tape". */
    private static void behindTheTape() {
        TwoFit x = wide(4, 1);
        x.feed(0x613d302b, 0x302b302b, 0x302b302b, 0x302b302b, 0x302b302b);
        due("forty", x.feed(0x30787878, 0x78787878, 0x78787878, 0x78787878, 0x78787878), 40);
        due("a TEXT of bytes of both", x.gossip(0, 0, 0, 21), 1);
        due("empty then, of all", x.count(4), 0);
        x.feed(0x613d302b, 0x302b302b, 0x302b302b, 0x302b302b, 0x302b302b);
        x.feed(0x30787878, 0x78787878, 0x78787878, 0x78787878, 0x78787878);
        due("a byte of the second twenty", x.gossip(0, 0, 0, 40), -1021);
    }

    // ---- promise 7

    private static void blurredByEach() {
        TwoFit x = new TwoFit();
        for (int c = 0; c < 4; c++) {
            x.upper(c, 15, 17 + c);
            x.upper(c, 17 + c, 21 + c);
            x.upper(c, 21 + c, 25 + c);
            x.upper(c, 25 + c, 31);
            due("by 0", x.blurred(c, 15, 0), 15);
            due("by 1", x.blurred(c, 15, 1), 17 + c);
            due("by 2", x.blurred(c, 15, 2), 21 + c);
            due("by 3", x.blurred(c, 15, 3), 25 + c);
            due("by 4", x.blurred(c, 15, 4), 31);
            due("VALUE 0 by 0", x.blurred(c, 0, 0), 0);
        }
    }

    /** "where there is no UPPER: ALL (32)", and above ALL there is none. */
    private static void whatIsAllStaysAll() {
        TwoFit x = town();
        int[] zero = {0, 16, 20, 32, 32};
        int[] nine = {9, 32, 32, 32, 32};
        for (int n = 0; n <= 4; n++) {
            due("0 by " + n, x.blurred(0, 0, n), zero[n]);
            due("9 by " + n, x.blurred(0, 9, n), nine[n]);
        }
    }

    private static void blurredIsRefused() {
        for (int no : beyond(0, 3)) {
            keeps("blurred in COLUMN " + no, Edges::town, TAPE, x -> x.blurred(no, 0, 0), NONE);
        }
        for (int no : beyond(0, 15)) {
            keeps("blurred VALUE " + no, Edges::town, TAPE, x -> x.blurred(0, no, 0), NONE);
        }
        for (int no : beyond(0, 4)) {
            keeps("blurred by " + no, Edges::town, TAPE, x -> x.blurred(0, 0, no), NONE);
        }
        keeps("a NODE above is no VALUE", Edges::town, TAPE, x -> x.blurred(0, 20, 1), NONE);
    }

    // ---- promise 8

    private static void sizesOfEach() {
        TwoFit x = town();
        due("VALUE 0", x.size(0, 0), 1);
        due("VALUE 15", x.size(0, 15), 1);
        due("a NODE of two", x.size(0, 16), 2);
        due("a NODE of NODES", x.size(0, 20), 4);
        due("a NODE of a NODE", x.size(1, 31), 2);
        due("a NODE that has nothing below it", x.size(0, 31), 0);
        due("ALL", x.size(0, 32), 16);
        due("ALL of COLUMN 3", x.size(3, 32), 16);
        x.upper(2, 16, 17);
        due("a NODE above an empty one", x.size(2, 17), 0);
        for (int value = 0; value < 16; value++) {
            x.upper(3, value, 31);
        }
        due("all below one NODE", x.size(3, 31), 16);
        due("no PERSON is needed", new TwoFit().size(0, 32), 16);
    }

    private static void sizeIsRefused() {
        for (int no : beyond(0, 3)) {
            keeps("size in COLUMN " + no, Edges::town, TAPE, x -> x.size(no, 0), NONE);
        }
        for (int no : beyond(0, 32)) {
            keeps("size of NODE " + no, Edges::town, TAPE, x -> x.size(0, no), NONE);
        }
    }

    private static void askingChangesNothing() {
        keeps("blurred", Edges::town, TAPE, x -> x.blurred(0, 3, 2), 20);
        keeps("size", Edges::town, TAPE, x -> x.size(0, 20), 4);
    }
}
