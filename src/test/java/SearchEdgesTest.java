/** The boundary cases of promises 24 to 28: FEWEST GOSSIPS, QUESTIONS, BLURRING, THE BEST SWAP, TOGETHER. */
public final class SearchEdgesTest extends Edges {
    private static final int[] LEVELS_AND_MORE = {-1, 0, 1, 2, 3, 4};

    public static void main(String[] args) {
        fewestIsRefused();
        fewestNoneAreEnough();
        fewestNoneMayBeEnough();
        fewestAllEight();
        fewestOfLikeOnesTheLeast();
        fewestOfItsBookAlone();
        fewestOfACutLine();
        fewestOfNoGiving();
        questionsIsRefused();
        questionsNoneNeedsBeAsked();
        questionsOfThoseWhoAreAlike();
        questionsOfNobodyAndOfACutLine();
        questionsOfThoseWhoFit();
        theFewestQuestions();
        questionsThatAreAlwaysEnough();
        questionsOfManyKinds();
        theFirstQuestion();
        questionsAsTheTreesAreNow();
        blurringIsRefused();
        blurringHasNotSoMany();
        blurringOfNoSuchPeople();
        blurringOfOneAndOfEight();
        blurringForTheLeastAndTheGreatest();
        blurringByThePrice();
        blurringCutsNoOtherOne();
        blurringOfLikeOnesTheLeastRow();
        blurringByTheHighestLevel();
        blurringBySizesAndWeights();
        bestSwapIsRefused();
        thereIsNoSwap();
        bestSwapIsToldEvenIfItIsNoMore();
        bestSwapOfEachColumn();
        bestSwapOfLikeOnes();
        bestSwapOfTheLastLines();
        bestSwapKnowsNoGossip();
        bestSwapOfCutLinesLinksAndWishes();
        togetherIsRefused();
        togetherThereIsNone();
        togetherOfTheFirst();
        togetherOfTheLast();
        togetherOfBooksThatAreNotSafe();
        togetherOfBooksThatAreNotShown();
        togetherOfNobody();
        togetherByWishesAndWithoutGossips();
        end();
    }

    // ---- promise 24

    private static void fewestIsRefused() {
        for (int no : beyond(0, 2)) {
            keeps("fewest of BOOK " + no, Edges::town, TAPE, x -> x.fewest(no, 0, 0), NONE);
            keeps("fewest, what " + no, Edges::town, TAPE, x -> x.fewest(0, 0, no), NONE);
            keeps("fewest of a CUT one, what " + no, Edges::town, TAPE, x -> x.fewest(0, 3, no), NONE);
        }
        for (int no : beyond(0, 3)) {
            keeps("fewest of LINE " + no, Edges::town, TAPE, x -> x.fewest(1, no, 0), NONE);
        }
    }

    private static void fewestOf(String what, TwoFit x, int b, int i, int many, int which, int whose) {
        due(what + ": how many", x.fewest(b, i, 0), many);
        due(what + ": which", x.fewest(b, i, 1), which);
        due(what + ": whose", x.fewest(b, i, 2), whose);
    }

    private static void fewestNoneAreEnough() {
        fewestOf("none are told", wide(2, 2), 0, 0, -2, -2, -2);
        TwoFit x = wide(4, 2);
        tell(x, 0, 0, 0, "p<2");
        tell(x, 7, 0, 1, "p<3");
        fewestOf("all of them are not enough", x, 0, 0, -2, -2, -2);
    }

    private static void fewestNoneMayBeEnough() {
        fewestOf("it MUST be by what it shows", town(), 2, 0, 0, 0, 1);
        fewestOf("one of one", wide(1, 1), 0, 0, 0, 0, 0);
        TwoFit x = row(2);
        book(x, 0, 0, 0, 0, 1, 0);
        tell(x, 0, 0, 0, "p=1");
        fewestOf("with a GOSSIP that needs not be known", x, 0, 0, 0, 0, 1);
    }

    private static void fewestAllEight() {
        TwoFit x = wide(9, 1);
        for (int g = 0; g < 8; g++) {
            tell(x, g, 0, 0, "!p=" + g);
        }
        fewestOf("eight", x, 0, 0, 8, 255, 8);
        tell(x, 3, 0, 0, "p=3");
        fewestOf("one of eight", x, 0, 0, 1, 8, 3);
        TwoFit y = wide(16, 8);
        tell(y, 7, 0, 7, "p=15");
        fewestOf("the last of all", y, 0, 7, 1, 128, 15);
    }

    /** "of like ones the least set": the lowest as bits. */
    private static void fewestOfLikeOnesTheLeast() {
        TwoFit x = wide(5, 1);
        tell(x, 0, 0, 0, "p<3");
        tell(x, 1, 0, 0, "p<2|p=3");
        tell(x, 2, 0, 0, "p=0|p=2|p=4");
        tell(x, 3, 0, 0, "p=0|p>2");
        fewestOf("1 and 2 ahead of 0 and 3", x, 0, 0, 2, bits(1, 2), 0);
        tell(x, 7, 0, 0, "p=4");
        fewestOf("one ahead of two", x, 0, 0, 1, bits(7), 4);
        tell(x, 6, 0, 0, "p=3");
        fewestOf("6 ahead of 7", x, 0, 0, 1, bits(6), 3);
    }

    /** "(of all GOSSIPS of LINES of its BOOK": of any LINE of it, and of no other BOOK. */
    private static void fewestOfItsBookAlone() {
        TwoFit x = wide(3, 3);
        book(x, 1, 0, 0, 0, 0, 1);
        x.link(0, 0, 1, 0);
        tell(x, 0, 1, 0, "p=0");
        fewestOf("a LINKED one's GOSSIP is not taken", x, 0, 0, -2, -2, -2);
        fewestOf("but for that BOOK", x, 1, 0, 1, 1, 0);
        tell(x, 4, 0, 1, "p=1");
        tell(x, 5, 0, 2, "p=2");
        fewestOf("of the other LINES", x, 0, 0, 2, bits(4, 5), 0);
        x.show(0, false);
        fewestOf("not SHOWN", x, 0, 0, 2, bits(4, 5), 0);
        tell(x, 4, 1, 1, "p=1");
        fewestOf("told of another BOOK now", x, 0, 0, -2, -2, -2);
    }

    private static void fewestOfACutLine() {
        keeps("a CUT one", Edges::town, TAPE, x -> x.fewest(0, 3, 0), -2);
        TwoFit x = wide(2, 2);
        tell(x, 0, 0, 0, "p=0");
        fewestOf("by the other LINE", x, 0, 1, 1, 1, 1);
        x.cut(0, 0);
        fewestOf("which is CUT", x, 0, 1, -2, -2, -2);
        keeps("fewest", Edges::town, TAPE, y -> y.fewest(0, 0, 1), 1);
    }

    private static void fewestOfNoGiving() {
        TwoFit x = wide(4, 2);
        tell(x, 0, 0, 0, "p=9");
        tell(x, 1, 0, 1, "p=9");
        fewestOf("no GIVING is not enough", x, 0, 0, -2, -2, -2);
        tell(x, 2, 0, 1, "p=1");
        tell(x, 3, 0, 0, "p<2");
        fewestOf("two of four", x, 0, 0, 2, bits(2, 3), 0);
        TwoFit y = row(3);
        book(y, 0, 0, 0, 0, 0);
        book(y, 0, 0, 0, 0, 1);
        y.link(0, 0, 1, 0);
        fewestOf("no GIVING from the first", y, 0, 0, -2, -2, -2);
    }

    // ---- promise 25

    private static void questionsIsRefused() {
        for (int no : beyond(0, 2)) {
            keeps("questions of BOOK " + no, Edges::town, TAPE, x -> x.questions(no, 0, 0, 0), NONE);
            keeps("questions, what " + no, Edges::town, TAPE, x -> x.questions(1, 0, 0, no), NONE);
            keeps("questions of a CUT one, what " + no, Edges::town, TAPE, x -> x.questions(0, 3, 0, no), NONE);
        }
        for (int no : beyond(0, 3)) {
            keeps("questions of LINE " + no, Edges::town, TAPE, x -> x.questions(1, no, 0, 0), NONE);
        }
        for (int no : beyond(0, 255)) {
            keeps("questions, known " + no, Edges::town, TAPE, x -> x.questions(1, 0, no, 0), NONE);
            keeps("questions of a CUT one, known " + no, Edges::town, TAPE, x -> x.questions(0, 3, no, 0), NONE);
        }
    }

    private static void questionsOf(String what, TwoFit x, int i, int known, int many, int column, int node) {
        due(what + ": how many", x.questions(0, i, known, 0), many);
        due(what + ": the COLUMN", x.questions(0, i, known, 1), column);
        due(what + ": the NODE", x.questions(0, i, known, 2), node);
    }

    private static void questionsNoneNeedsBeAsked() {
        questionsOf("one FITS", wide(1, 1), 0, 0, 0, -3, -3);
        TwoFit x = wide(16, 1);
        tell(x, 0, 0, 0, "p=15");
        questionsOf("one of 16", x, 0, 1, 0, -3, -3);
        keeps("none needs be asked", Edges::town, TAPE, y -> y.questions(0, 0, 1, 2), -3);
    }

    /** "(Who have all VALUES alike can't be told apart: then none are.)" */
    private static void questionsOfThoseWhoAreAlike() {
        TwoFit x = new TwoFit();
        x.person(0, 0, 0, 0);
        x.person(1, 0, 0, 0);
        x.person(1, 0, 0, 0);
        x.person(1, 0, 0, 1);
        book(x, 1, 1, 1, 1, 0);
        questionsOf("two of four are alike", x, 0, 0, -2, -2, -2);
        tell(x, 0, 0, 0, "p=1|p=2");
        questionsOf("two of two", x, 0, 1, -2, -2, -2);
        tell(x, 0, 0, 0, "!p=1");
        questionsOf("one of the two FITS not", x, 0, 1, 2, 0, 0);
        tell(x, 0, 0, 0, "p>1");
        questionsOf("alike but for COLUMN 3", x, 0, 1, 1, 3, 0);
        tell(x, 0, 0, 0, "p=1");
        questionsOf("one of the two alone", x, 0, 1, 0, -3, -3);
    }

    private static void questionsOfNobodyAndOfACutLine() {
        TwoFit x = wide(4, 2);
        tell(x, 0, 0, 0, "p=9");
        questionsOf("nobody FITS", x, 0, 1, -2, -2, -2);
        questionsOf("another LINE", x, 1, 1, 3, 0, 0);
        x.cut(0, 0);
        questionsOf("a CUT one", x, 0, 0, -2, -2, -2);
        questionsOf("a CUT one, known", x, 0, 1, -2, -2, -2);
        keeps("a CUT one", Edges::town, TAPE, y -> y.questions(0, 3, 255, 0), -2);
    }

    /** "of those who FIT a LINE", though by the other LINES it MUST be one. */
    private static void questionsOfThoseWhoFit() {
        TwoFit x = wide(4, 2);
        tell(x, 0, 0, 0, "p=0");
        tell(x, 1, 0, 1, "p<2");
        due("it MUST be", x.mustBe(0, 1, 1, 3), 2);
        questionsOf("but two FIT", x, 1, 3, 1, 0, 0);
        questionsOf("where there is no GIVING, too", x, 0, 3, 0, -3, -3);
    }

    /** "that are always enough (by what was answered before the next one is chosen)". */
    private static void theFewestQuestions() {
        questionsOf("16, one by one", wide(16, 1), 0, 0, 15, 0, 0);
        questionsOf("2", wide(2, 1), 0, 0, 1, 0, 0);
        TwoFit x = wide(4, 1);
        x.upper(0, 0, 16);
        x.upper(0, 1, 16);
        questionsOf("chosen by what was answered", x, 0, 0, 2, 0, 16);
        TwoFit y = new TwoFit();
        for (int p = 0; p < 16; p++) {
            y.person(p & 1, p >> 1 & 1, p >> 2 & 1, p >> 3);
        }
        book(y, 1, 1, 1, 1, 0);
        questionsOf("16 halved each time", y, 0, 0, 4, 0, 0);
        tell(y, 0, 0, 0, "p<9");
        questionsOf("9 of them", y, 0, 1, 4, 0, 0);
        tell(y, 0, 0, 0, "p<8");
        questionsOf("8 of them", y, 0, 1, 3, 0, 0);
        tell(y, 0, 0, 0, "p>7");
        questionsOf("the other 8", y, 0, 1, 3, 0, 0);
    }

    /** One half is told apart by pairs, the other one is not: the worse one counts. */
    private static void questionsThatAreAlwaysEnough() {
        TwoFit x = wide(8, 1);
        for (int value = 0; value < 4; value++) {
            x.upper(0, value, 16 + value / 2);
        }
        x.upper(0, 16, 20);
        x.upper(0, 17, 20);
        questionsOf("one half by pairs, one of the other one first", x, 0, 0, 4, 0, 4);
        for (int value = 4; value < 8; value++) {
            x.upper(0, value, 16 + value / 2);
        }
        questionsOf("both by pairs", x, 0, 0, 3, 0, 20);
        x.upper(0, 4, -1);
        questionsOf("one pair is enough for four", x, 0, 0, 3, 0, 20);
        x.upper(0, 6, -1);
        questionsOf("none is not", x, 0, 0, 4, 0, 4);
    }

    /** Each COLUMN tells other pairs apart, the last one also halves. */
    private static void questionsOfManyKinds() {
        TwoFit x = new TwoFit();
        int[][] others = {{1, 0}, {2, 1}, {3, 2}, {0, 0}};
        for (int c = 0; c < 3; c++) {
            int node = 16;
            for (int value = 0; value < 16; value++) {
                int other = value ^ others[c][0];
                if (value < other) {
                    x.upper(c, value, node);
                    x.upper(c, other, node);
                    node++;
                }
            }
        }
        for (int p = 0; p < 16; p++) {
            x.person(p, p, p, p);
        }
        book(x, 2, 2, 2, 1, 0);
        questionsOf("pairs alone", x, 0, 0, 8, 0, 16);
        for (int value = 0; value < 8; value++) {
            x.upper(3, value, 31);
        }
        questionsOf("halved by the last NODE", x, 0, 0, 5, 3, 31);
    }

    /** "the least COLUMN, then NODE, by which they are enough", NODES 0 to 31. */
    private static void theFirstQuestion() {
        TwoFit x = new TwoFit();
        for (int p = 0; p < 16; p++) {
            x.person(7, 7, 7, p);
        }
        book(x, 1, 1, 1, 1, 0);
        for (int value = 0; value < 8; value++) {
            x.upper(3, value, 31);
        }
        questionsOf("the last of all", x, 0, 0, 8, 3, 31);
        for (int value = 8; value < 16; value++) {
            x.upper(3, value, 16);
        }
        questionsOf("the other half, a lesser NODE", x, 0, 0, 8, 3, 16);
        TwoFit y = new TwoFit();
        y.person(3, 5, 5, 5);
        y.person(3, 4, 5, 5);
        book(y, 1, 1, 1, 1, 0);
        questionsOf("of COLUMN 1, by the lesser VALUE", y, 0, 0, 1, 1, 4);
        y.person(3, 5, 15, 5);
        questionsOf("of COLUMN 1 still", y, 0, 0, 2, 1, 4);
        TwoFit z = new TwoFit();
        z.person(0, 0, 0, 14);
        z.person(0, 0, 0, 15);
        book(z, 1, 1, 1, 1, 0);
        questionsOf("VALUE 14", z, 0, 0, 1, 3, 14);
        z.upper(3, 14, 31);
        z.upper(3, 15, 31);
        questionsOf("both below 31, which tells nothing", z, 0, 0, 1, 3, 14);
    }

    private static void questionsAsTheTreesAreNow() {
        TwoFit x = wide(8, 1);
        questionsOf("no TREE", x, 0, 0, 7, 0, 0);
        for (int value = 0; value < 4; value++) {
            x.upper(0, value, 20);
        }
        questionsOf("halved once", x, 0, 0, 4, 0, 20);
        x.upper(0, 0, 17);
        x.upper(0, 1, 17);
        x.upper(0, 17, 20);
        x.upper(0, 4, 18);
        x.upper(0, 5, 18);
        questionsOf("halved twice", x, 0, 0, 3, 0, 20);
        x.upper(0, 17, -1);
        questionsOf("by less", x, 0, 0, 4, 0, 17);
        TwoFit z = row(4);
        z.upper(0, 0, 16);
        book(z, 4, 0, 0, 0, 0);
        questionsOf("one UPPER was told", z, 0, 0, 3, 0, 0);
        z.upper(0, 1, 16);
        questionsOf("one more", z, 0, 0, 2, 0, 16);
        keeps("questions", Edges::town, TAPE, y -> y.questions(1, 0, 0, 0), 3);
    }

    // ---- promise 26

    private static int blurringOf(TwoFit x, int k, int price, int what, int... people) {
        feed(x, people);
        return x.blurring(people.length, k, price, what);
    }

    private static void blurringIsRefused() {
        for (int no : beyond(1, 8)) {
            keeps("blurring of " + no, Edges::town, TAPE, x -> x.blurring(no, 1, 0, 0), -3);
        }
        for (int no : beyond(1, 16)) {
            keeps("blurring for " + no, Edges::town, TAPE, x -> x.blurring(3, no, 0, 0), -3);
        }
        for (int no : beyond(0, 9999)) {
            keeps("blurring, price " + no, Edges::town, TAPE, x -> x.blurring(3, 1, no, 0), -3);
        }
        for (int no : beyond(-1, 4)) {
            keeps("blurring, what " + no, Edges::town, TAPE, x -> x.blurring(3, 1, 0, no), -3);
        }
    }

    private static void blurringHasNotSoMany() {
        for (int n = 1; n <= 8; n++) {
            int many = n;
            keeps("the tape has not " + n, Edges::town, EMPTY, x -> x.blurring(many, 1, 0, -1), -3);
        }
    }

    /** "-2: no such PEOPLE, one twice", "in blurring() -3 ahead of -2". */
    private static void blurringOfNoSuchPeople() {
        for (int what : LEVELS_AND_MORE) {
            empties("one twice", Edges::town, new int[] {5, 0, 5}, x -> x.blurring(3, 1, 0, what), -2);
            empties("PERSON 6", Edges::town, new int[] {0, 1, 6}, x -> x.blurring(3, 1, 0, what), -2);
            empties("PERSON 255", Edges::town, new int[] {255}, x -> x.blurring(1, 1, 0, what), -2);
        }
        int[] twice = {0, 0, 99};
        keeps("of nine, one twice", Edges::town, twice, x -> x.blurring(9, 1, 0, 0), -3);
        keeps("for 0, one twice", Edges::town, twice, x -> x.blurring(2, 0, 0, 0), -3);
        keeps("for 17, one twice", Edges::town, twice, x -> x.blurring(2, 17, 0, 0), -3);
        keeps("price -1, nobody", Edges::town, twice, x -> x.blurring(3, 1, -1, 0), -3);
        keeps("what 5, nobody", Edges::town, twice, x -> x.blurring(3, 1, 0, 5), -3);
        empties("one of them alone", Edges::town, twice, x -> x.blurring(1, 1, 0, -1), 0);
    }

    private static void blurringOfOneAndOfEight() {
        TwoFit x = row(16);
        due("of one for 1", blurringOf(x, 1, 9999, -1, 15), 0);
        due("of one for 16", blurringOf(x, 16, 9999, -1, 15), 15);
        due("of eight for 16", blurringOf(x, 16, 9999, -1, 8, 9, 10, 11, 12, 13, 14, 15), 120);
        due("of eight, by LEVEL 1", blurringOf(x, 16, 9999, 0, 8, 9, 10, 11, 12, 13, 14, 15), 1);
        due("the tape is empty then", x.count(4), 0);
        due("no BOOK is made", x.count(1), 0);
        empties("blurring makes nothing", Edges::town, TAPE, y -> y.blurring(3, 2, 5, -1), 15);
        empties("blurring of a full town", Edges::full, new int[] {0, 1, 2, 3, 4, 5, 6, 7}, y -> y.blurring(8, 16, 1, 4), 8);
    }

    /** "each LINE that FITS fewer than k PEOPLE": of all that are there, k 1 to 16. */
    private static void blurringForTheLeastAndTheGreatest() {
        TwoFit x = row(15);
        due("for 16 of 15", blurringOf(x, 16, 9999, -1, 0, 1, 2, 3, 4, 5, 6, 7), 79992);
        due("all are CUT", blurringOf(x, 16, 9999, 4, 0, 1, 2, 3, 4, 5, 6, 7), 8);
        due("by no LEVEL", blurringOf(x, 16, 9999, 0, 0, 1, 2, 3, 4, 5, 6, 7), 0);
        due("for 15 of 15", blurringOf(x, 15, 9999, -1, 0, 1, 2, 3, 4, 5, 6, 7), 120);
        due("none is CUT", blurringOf(x, 15, 9999, 4, 0, 1, 2, 3, 4, 5, 6, 7), 0);
        due("for 1", blurringOf(x, 1, 0, 4, 0, 1, 2, 3, 4, 5, 6, 7), 0);
        x.person(0, 0, 0, 0);
        x.wish(0, 16);
        due("two alike, for 2, whatever the WISH", blurringOf(x, 2, 9999, -1, 0), 0);
        due("none is CUT of them", blurringOf(x, 2, 9999, 4, 0, 15), 0);
    }

    /** "a told PRICE (0 to 9999) for each CUT one". */
    private static void blurringByThePrice() {
        TwoFit x = town();
        x.weight(0, 1);
        due("for nothing", blurringOf(x, 2, 0, -1, 0, 1, 2, 3), 0);
        due("all are CUT", blurringOf(x, 2, 0, 4, 0, 1, 2, 3), 4);
        due("for 9999", blurringOf(x, 2, 9999, -1, 0, 1, 2, 3), 8);
        due("none is CUT", blurringOf(x, 2, 9999, 4, 0, 1, 2, 3), 0);
        due("for 2", blurringOf(x, 2, 2, -1, 0, 1, 2, 3), 8);
        due("as many as are CUT by the least row of like ones", blurringOf(x, 2, 2, 4, 0, 1, 2, 3), 4);
        due("for 3", blurringOf(x, 2, 3, -1, 0, 1, 2, 3), 8);
        due("for 3 none is CUT", blurringOf(x, 2, 3, 4, 0, 1, 2, 3), 0);
        due("for 3 by LEVEL 1", blurringOf(x, 2, 3, 0, 0, 1, 2, 3), 1);
        due("for 3 by LEVEL 1 of COLUMN 1", blurringOf(x, 2, 3, 1, 0, 1, 2, 3), 1);
        due("for 3 by LEVEL 0 of COLUMN 2", blurringOf(x, 2, 3, 2, 0, 1, 2, 3), 0);
        due("for 3 by LEVEL 1 of COLUMN 3", blurringOf(x, 2, 3, 3, 0, 1, 2, 3), 1);
    }

    /** "being CUT, no other one": though its PRICE is less than its LOSS. */
    private static void blurringCutsNoOtherOne() {
        TwoFit x = new TwoFit();
        for (int value = 0; value < 16; value++) {
            x.upper(0, value, value < 2 ? 16 : 17);
        }
        x.person(0, 0, 0, 0);
        x.person(1, 0, 0, 0);
        x.person(2, 0, 0, 0);
        x.person(2, 0, 0, 0);
        due("two are CUT by LEVEL 0", blurringOf(x, 2, 6, -1, 0, 1, 2), 12);
        due("how many", blurringOf(x, 2, 6, 4, 0, 1, 2), 2);
        due("LEVEL 0", blurringOf(x, 2, 6, 0, 0, 1, 2), 0);
        due("none is CUT by LEVEL 1", blurringOf(x, 2, 8, -1, 0, 1, 2), 15);
        due("how many then", blurringOf(x, 2, 8, 4, 0, 1, 2), 0);
        due("LEVEL 1", blurringOf(x, 2, 8, 0, 0, 1, 2), 1);
    }

    /** "of like ones the least row of LEVELS": COLUMN 0 counts most. */
    private static void blurringOfLikeOnesTheLeastRow() {
        TwoFit x = new TwoFit();
        x.person(0, 0, 0, 0);
        x.person(1, 0, 0, 0);
        x.person(0, 1, 0, 0);
        x.person(0, 0, 1, 0);
        x.person(0, 0, 0, 1);
        int[] row = {0, 0, 0, 1};
        for (int c = 0; c < 4; c++) {
            due("LEVEL of COLUMN " + c, blurringOf(x, 2, 9999, c, 0), row[c]);
        }
        due("their LOSS", blurringOf(x, 2, 9999, -1, 0), 15);
        x.weight(3, 2);
        int[] then = {0, 0, 1, 0};
        for (int c = 0; c < 4; c++) {
            due("COLUMN 3 weighs more, LEVEL of COLUMN " + c, blurringOf(x, 2, 9999, c, 0), then[c]);
        }
        x.weight(0, 0);
        x.weight(1, 0);
        due("no WEIGHT: COLUMN 1 ahead of 0", blurringOf(x, 2, 9999, 1, 0), 1);
        due("LEVEL of COLUMN 0", blurringOf(x, 2, 9999, 0, 0), 0);
        due("no LOSS", blurringOf(x, 2, 9999, -1, 0), 0);
        due("as little as is enough", blurringOf(x, 3, 9999, 0, 0), 1);
        due("as little of COLUMN 1", blurringOf(x, 3, 9999, 1, 0), 1);
        due("of what is no loss the least", blurringOf(x, 1, 0, 1, 0), 0);
    }

    /** LEVELS 0 to 4 of each COLUMN. */
    private static void blurringByTheHighestLevel() {
        for (int c = 0; c < 4; c++) {
            TwoFit x = new TwoFit();
            int[][] ways = {{0, 16, 20, 24, 31}, {15, 17, 21, 25, 31}};
            for (int[] way : ways) {
                for (int n = 0; n < 4; n++) {
                    x.upper(c, way[n], way[n + 1]);
                }
                x.person(c == 0 ? way[0] : 7, c == 1 ? way[0] : 7, c == 2 ? way[0] : 7, c == 3 ? way[0] : 7);
            }
            for (int other = 0; other < 4; other++) {
                due("LEVEL of COLUMN " + other, blurringOf(x, 2, 9999, other, 0, 1), other == c ? 4 : 0);
            }
            due("LOSS", blurringOf(x, 2, 9999, -1, 0, 1), 2);
            x.upper(c, 24, -1);
            due("LEVEL 4 is ALL for one, the other one is CUT", blurringOf(x, 2, 9999, -1, 0, 1), 10014);
            due("for 16 one is CUT", blurringOf(x, 2, 16, 4, 0, 1), 1);
            due("for 15 both are", blurringOf(x, 2, 15, 4, 0, 1), 2);
        }
    }

    /** "WEIGHT times (SIZE of what it shows less 1, not below 0)". */
    private static void blurringBySizesAndWeights() {
        TwoFit x = row(2);
        for (int c = 0; c < 4; c++) {
            x.weight(c, 99);
        }
        due("ALL of COLUMN 0", blurringOf(x, 2, 9999, -1, 0, 1), 2970);
        due("for less", blurringOf(x, 2, 1484, -1, 0, 1), 2968);
        due("for the same", blurringOf(x, 2, 1485, 4, 0, 1), 2);
        x.upper(0, 0, 16);
        x.upper(0, 1, 16);
        due("two VALUES", blurringOf(x, 2, 9999, -1, 0, 1), 198);
        x.upper(0, 15, 16);
        due("three, of which nobody has one", blurringOf(x, 2, 9999, -1, 0, 1), 396);
        x.weight(0, 0);
        due("no WEIGHT", blurringOf(x, 2, 9999, -1, 0, 1), 0);
        due("VALUES are no LOSS", blurringOf(x, 1, 9999, -1, 0, 1), 0);
    }

    // ---- promise 27

    private static void bestSwapIsRefused() {
        for (int no : beyond(0, 2)) {
            keeps("bestSwap of BOOK " + no, Edges::town, TAPE, x -> x.bestSwap(no, 1, 0), NONE);
        }
        for (int no : beyond(1, 16)) {
            keeps("bestSwap for " + no, Edges::town, TAPE, x -> x.bestSwap(0, no, 0), NONE);
        }
        for (int no : beyond(0, 3)) {
            keeps("bestSwap, what " + no, Edges::town, TAPE, x -> x.bestSwap(0, 1, no), NONE);
            due("NONE ahead of there is none", wide(2, 2).bestSwap(0, 1, no), NONE);
        }
    }

    private static void swapOf(String what, TwoFit x, int k, int column, int first, int second, int safe) {
        due(what + ": the COLUMN", x.bestSwap(0, k, 0), column);
        due(what + ": the first LINE", x.bestSwap(0, k, 1), first);
        due(what + ": the second LINE", x.bestSwap(0, k, 2), second);
        due(what + ": SAFE then", x.bestSwap(0, k, 3), safe);
    }

    private static void thereIsNoSwap() {
        swapOf("all show the same", wide(8, 8), 1, -2, -2, -2, -2);
        TwoFit x = row(2);
        book(x, 0, 0, 0, 0, 1);
        swapOf("of one LINE", x, 1, -2, -2, -2, -2);
        TwoFit y = row(3);
        book(y, 0, 0, 0, 0, 0, 1, 2);
        y.cut(0, 0);
        y.cut(0, 2);
        swapOf("one LINE is not CUT", y, 1, -2, -2, -2, -2);
        y.cut(0, 1);
        swapOf("all are CUT", y, 1, -2, -2, -2, -2);
    }

    /** "told even if it is no more than now", none included. */
    private static void bestSwapIsToldEvenIfItIsNoMore() {
        TwoFit x = row(3);
        book(x, 0, 0, 0, 0, 2, 1, 0);
        due("all are SAFE for 1 now", x.safe(0, 1, 0), 7);
        swapOf("as many as now", x, 1, 0, 0, 1, 3);
        swapOf("none is SAFE for 2", x, 2, 0, 0, 1, 0);
        swapOf("none is SAFE for 16", x, 16, 0, 0, 1, 0);
        TwoFit y = new TwoFit();
        y.person(0, 0, 0, 0);
        y.person(1, 1, 0, 0);
        book(y, 0, 0, 0, 0, 0, 1);
        swapOf("less than now", y, 1, 0, 0, 1, 0);
        keeps("bestSwap", Edges::town, TAPE, z -> z.bestSwap(0, 2, 3), 3);
    }

    /** Two LINES of 0 0 0 0 and 1 1 1 1; what they show when SWAPPED in a COLUMN two have each, else one. */
    private static void bestSwapOfEachColumn() {
        for (int c = 0; c < 4; c++) {
            TwoFit x = new TwoFit();
            x.person(0, 0, 0, 0);
            x.person(1, 1, 1, 1);
            for (int other = 0; other < 4; other++) {
                for (int n = 0; n < (other == c ? 2 : 1); n++) {
                    x.person(other == 0 ? 1 : 0, other == 1 ? 1 : 0, other == 2 ? 1 : 0, other == 3 ? 1 : 0);
                    x.person(other == 0 ? 0 : 1, other == 1 ? 0 : 1, other == 2 ? 0 : 1, other == 3 ? 0 : 1);
                }
            }
            book(x, 0, 0, 0, 0, 0, 1);
            swapOf("by COLUMN " + c, x, 2, c, 0, 1, 2);
            swapOf("for 1", x, 1, 0, 0, 1, 2);
            swapOf("for 3", x, 3, 0, 0, 1, 0);
            x.show(0, false);
            swapOf("not SHOWN", x, 2, c, 0, 1, 2);
        }
    }

    /** "of like ones the least COLUMN, then the first, then the second LINE (above it)". */
    private static void bestSwapOfLikeOnes() {
        TwoFit x = new TwoFit();
        x.person(0, 0, 0, 0);
        x.person(0, 0, 0, 0);
        x.person(0, 0, 0, 1);
        x.person(0, 0, 1, 0);
        book(x, 0, 0, 0, 0, 0, 1, 2, 3);
        swapOf("for 16 the least COLUMN", x, 16, 2, 0, 3, 0);
        book(x, 0, 0, 0, 0, 2, 0, 1, 3);
        due("in COLUMN 2 the first LINE", x.bestSwap(1, 16, 1), 0);
        due("in COLUMN 2 the second LINE", x.bestSwap(1, 16, 2), 3);
        x.cut(1, 3);
        due("in COLUMN 3", x.bestSwap(1, 16, 0), 3);
        due("in COLUMN 3 the first LINE", x.bestSwap(1, 16, 1), 0);
        due("in COLUMN 3 the second LINE", x.bestSwap(1, 16, 2), 1);
    }

    private static void bestSwapOfTheLastLines() {
        TwoFit x = new TwoFit();
        for (int p = 0; p < 7; p++) {
            x.person(4, 4, 4, 4);
        }
        x.person(4, 4, 4, 5);
        book(x, 0, 0, 0, 0, 0, 1, 2, 3, 4, 5, 6, 7);
        for (int i = 0; i < 6; i++) {
            x.cut(0, i);
        }
        swapOf("LINES 6 and 7, COLUMN 3", x, 7, 3, 6, 7, 1);
        TwoFit y = new TwoFit();
        for (int p = 0; p < 16; p++) {
            y.person(p / 8, 0, 0, 0);
        }
        book(y, 0, 0, 0, 0, 0, 1, 2, 3, 8, 9, 10, 11);
        swapOf("of eight LINES", y, 8, 0, 0, 4, 8);
    }

    /** "no GOSSIP being known". */
    private static void bestSwapKnowsNoGossip() {
        TwoFit x = row(3);
        book(x, 0, 0, 0, 0, 0, 1);
        for (int g = 0; g < 8; g++) {
            tell(x, g, 0, g % 2, "p>9");
        }
        swapOf("GOSSIPS say nothing", x, 1, 0, 0, 1, 2);
    }

    private static void bestSwapOfCutLinesLinksAndWishes() {
        TwoFit x = row(4);
        book(x, 0, 0, 0, 0, 0, 1, 2);
        book(x, 0, 0, 0, 0, 1);
        swapOf("LINES 0 and 1", x, 1, 0, 0, 1, 3);
        x.link(0, 0, 1, 0);
        swapOf("a LINK: only LINE 1 has what LINE 0 needs", x, 1, 0, 0, 1, 3);
        x.cut(0, 1);
        swapOf("that is CUT", x, 1, 0, 0, 2, 0);
        x.show(1, false);
        swapOf("the LINK leads nowhere", x, 1, 0, 0, 2, 2);
        x.wish(0, 2);
        swapOf("a WISH", x, 1, 0, 0, 2, 1);
        x.wish(1, 2);
        swapOf("a WISH of whom a CUT one is", x, 1, 0, 0, 2, 1);
    }

    // ---- promise 28

    private static void togetherIsRefused() {
        for (int no : beyond(1, 16)) {
            keeps("together for " + no, Edges::town, TAPE, x -> x.together(no, 0), NONE);
        }
        for (int no : beyond(0, 2)) {
            keeps("together, what " + no, Edges::town, TAPE, x -> x.together(3, no), NONE);
            keeps("together of a new town, what " + no, TwoFit::new, TAPE, x -> x.together(1, no), NONE);
        }
    }

    private static void togetherOf(String what, TwoFit x, int k, int book, int line, int whom) {
        due(what + ": the BOOK", x.together(k, 0), book);
        due(what + ": the LINE", x.together(k, 1), line);
        due(what + ": whom it may be", x.together(k, 2), whom);
    }

    private static void togetherThereIsNone() {
        togetherOf("of no BOOKS", row(4), 1, -2, -2, -2);
        TwoFit x = wide(4, 2);
        book(x, 1, 0, 0, 0, 2, 3);
        togetherOf("no LINKS", x, 4, -2, -2, -2);
        x.link(0, 0, 1, 0);
        togetherOf("a LINK that takes nobody", x, 4, -2, -2, -2);
        togetherOf("not SAFE by itself", x, 5, -2, -2, -2);
        keeps("together", Edges::town, TAPE, y -> y.together(3, 2), bits(0, 1));
    }

    /** "the first BOOK, in it the first LINE that is not SAFE". */
    private static void togetherOfTheFirst() {
        TwoFit x = row(8);
        x.upper(0, 6, 16);
        x.upper(0, 7, 16);
        book(x, 4, 0, 0, 0, 0, 1, 2);
        book(x, 4, 0, 0, 0, 3, 4, 5);
        book(x, 1, 0, 0, 0, 6, 7);
        togetherOf("no LINK", x, 2, -2, -2, -2);
        x.link(1, 1, 2, 0);
        x.link(1, 2, 2, 0);
        togetherOf("for 3 in BOOK 1", x, 3, 1, 1, bits(6, 7));
        togetherOf("for 2 all are SAFE", x, 2, -2, -2, -2);
        x.link(0, 2, 2, 0);
        togetherOf("for 3 in BOOK 0", x, 3, 0, 2, bits(6, 7));
        togetherOf("for 8", x, 8, 0, 2, bits(6, 7));
        x.cut(0, 2);
        togetherOf("that one is CUT", x, 3, 1, 1, bits(6, 7));
        x.cut(1, 1);
        togetherOf("the next one", x, 3, 1, 2, bits(6, 7));
        x.cut(1, 2);
        togetherOf("all of them", x, 3, -2, -2, -2);
    }

    private static void togetherOfTheLast() {
        TwoFit x = row(16);
        book(x, 0, 0, 0, 0, 0);
        book(x, 0, 0, 0, 0, 1);
        book(x, 0, 0, 0, 0, 15);
        book(x, 1, 0, 0, 0, 0, 1, 2, 3, 4, 5, 6, 15);
        x.link(2, 0, 3, 7);
        togetherOf("BOOK 3, LINE 7", x, 2, 3, 7, 1 << 15);
        togetherOf("for 15", x, 15, 3, 7, 1 << 15);
        togetherOf("for 16 the others, too", x, 16, 3, 0, 65535 >> 1);
        togetherOf("for 1 none", x, 1, -2, -2, -2);
    }

    /** "though its BOOK is SAFE for k by itself". */
    private static void togetherOfBooksThatAreNotSafe() {
        TwoFit x = wide(4, 2);
        book(x, 0, 0, 0, 0, 3);
        x.link(0, 1, 1, 0);
        togetherOf("BOOK 1 by itself is not", x, 2, 0, 1, bits(3));
        x.wish(0, 5);
        togetherOf("nor is BOOK 0 by a WISH of its other LINE", x, 2, -2, -2, -2);
        x.wish(0, 4);
        togetherOf("it is, but that LINE is the first now", x, 2, 0, 0, bits(0, 1, 2));
    }

    /** "all SHOWN BOOKS", "(as if no other one were SHOWN)". */
    private static void togetherOfBooksThatAreNotShown() {
        TwoFit x = wide(4, 2);
        book(x, 0, 0, 0, 0, 3);
        x.link(0, 1, 1, 0);
        x.show(1, false);
        togetherOf("the other one is not SHOWN", x, 2, -2, -2, -2);
        x.show(1, true);
        x.show(0, false);
        togetherOf("it is not SHOWN itself", x, 2, -2, -2, -2);
        x.show(0, true);
        togetherOf("both are", x, 2, 0, 1, bits(3));
        TwoFit y = row(4);
        book(y, 0, 0, 0, 0, 3);
        book(y, 1, 0, 0, 0, 0);
        book(y, 1, 0, 0, 0, 1);
        y.link(0, 0, 1, 0);
        y.link(0, 0, 2, 0);
        y.show(1, false);
        togetherOf("past one that is not SHOWN", y, 2, 2, 0, bits(3));
    }

    /** No GIVING: it may be nobody's. */
    private static void togetherOfNobody() {
        TwoFit x = wide(4, 2);
        book(x, 0, 0, 0, 0, 3, 2);
        x.link(0, 0, 1, 0);
        x.link(0, 0, 1, 1);
        togetherOf("LINE 0 is nobody's, and BOOK 1 is not SAFE for 2", x, 2, 0, 0, 0);
        togetherOf("for 1", x, 1, 0, 0, 0);
        x.show(0, false);
        togetherOf("without it the other one is laid on nothing", x, 1, -2, -2, -2);
        TwoFit y = wide(4, 2);
        book(y, 0, 0, 0, 0, 3);
        y.link(0, 0, 1, 0);
        y.link(0, 1, 1, 0);
        togetherOf("both LINES for one", y, 4, 0, 0, 0);
        y.cut(1, 0);
        togetherOf("it is CUT", y, 4, -2, -2, -2);
    }

    private static void togetherByWishesAndWithoutGossips() {
        TwoFit x = wide(4, 2);
        book(x, 1, 0, 0, 0, 3);
        x.link(0, 1, 1, 0);
        for (int g = 0; g < 8; g++) {
            due("a GOSSIP of each LINE", tell(x, g, g / 4, g < 4 ? g % 2 : 0, "p=9"), 1);
        }
        togetherOf("GOSSIPS say nothing", x, 4, -2, -2, -2);
        x.upper(0, 3, 16);
        book(x, 1, 0, 0, 0, 3);
        x.link(0, 0, 2, 0);
        togetherOf("nor of a BOOK by itself", x, 2, 0, 0, bits(3));
        TwoFit y = wide(4, 2);
        y.upper(0, 2, 16);
        y.upper(0, 3, 16);
        book(y, 1, 0, 0, 0, 3);
        y.link(0, 1, 1, 0);
        togetherOf("for 2 all are SAFE", y, 2, -2, -2, -2);
        y.wish(1, 3);
        togetherOf("a WISH of 3", y, 2, 0, 1, bits(2, 3));
        togetherOf("a WISH of 3, for 1", y, 1, 0, 1, bits(2, 3));
    }
}
