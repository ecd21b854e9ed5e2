/** Each call in a full town: its greatest arguments are taken, and one past each of them is refused. */
public final class FullEdgesTest extends Edges {
    private static final int[] EIGHT = {8, 9, 10, 11, 12, 13, 14, 15};

    public static void main(String[] args) {
        theGreatestOfTheTown();
        theGreatestOfTheBooks();
        theGreatestOfGossips();
        theGreatestOfWhoFits();
        theGreatestOfGivings();
        theGreatestOfTheSearches();
        theGreatestOfBlurring();
        theGreatestOfChecks();
        nobodyFits();
        onePastTheLastBook();
        onePastTheLastLine();
        onePastTheLastPerson();
        onePastAllThatIsKnown();
        end();
    }

    private static void keeps(String what, Call call, long want) {
        keeps(what, Edges::full, TAPE, call, want);
    }

    private static void theGreatestOfTheTown() {
        keeps("upper", x -> of(x.upper(3, 31, -1)), YES);
        keeps("weight", x -> of(x.weight(3, 99)), YES);
        keeps("person", x -> x.person(15, 15, 15, 15), NONE);
        keeps("wish", x -> of(x.wish(15, 16)), YES);
        keeps("blurred", x -> x.blurred(3, 15, 4), 32);
        keeps("blurred in COLUMN 0", x -> x.blurred(0, 15, 2), 27);
        keeps("size", x -> x.size(3, 32), 16);
        keeps("size in COLUMN 0", x -> x.size(0, 27), 4);
    }

    private static void theGreatestOfTheBooks() {
        TwoFit x = full();
        due("swap", x.swap(3, 7, 6, 3), true);
        due("show", x.show(3, false), true);
        due("cut", x.cut(3, 7), true);
        due("what is SHOWN", x.count(5), 7);
        due("it is CUT", x.line(3, 7, 3), -2);
        due("the other one shows its VALUE", x.line(3, 6, 3), 0);
        keeps("line", y -> y.line(3, 7, 4), 15);
        keeps("line in COLUMN 3", y -> y.line(3, 7, 3), 0);
        keeps("link", y -> y.link(3, 7, 0, 7), NONE);
        keeps("loss of VALUES", y -> y.loss(3), 0);
        keeps("loss", y -> y.loss(0), 12144);
    }

    private static void theGreatestOfGossips() {
        TwoFit x = full();
        due("gossip", tell(x, 7, 3, 7, "p<15|d>1" + "+0".repeat(46)), 1);
        due("it says something", x.fits(3, 7, 128), 0);
        due("told ones", x.count(3), 255);
        empties("a FAULT", Edges::full, bytes("p<15|d>1?"), y -> y.gossip(7, 3, 7, 9), -1008);
    }

    private static void theGreatestOfWhoFits() {
        keeps("fits", x -> x.fits(3, 7, 255), 1 << 15);
        keeps("fits of four", x -> x.fits(1, 7, 255), bits(12, 13, 14, 15));
        keeps("givings", x -> x.givings(3, 255), 1);
        keeps("givings of fours", x -> x.givings(1, 255), 576);
        keeps("odds above", x -> x.odds(1, 7, 15, 255, 0), 1);
        keeps("odds below", x -> x.odds(1, 7, 15, 255, 1), 4);
        keeps("odds of all", x -> x.odds(3, 7, 15, 255, 1), 1);
        keeps("mustBe: MUST", x -> x.mustBe(3, 7, 15, 255), 2);
        keeps("mustBe: MAY", x -> x.mustBe(1, 7, 15, 255), 1);
        keeps("mustBe: CAN'T", x -> x.mustBe(1, 3, 15, 255), 0);
    }

    private static void theGreatestOfGivings() {
        keeps("giving", x -> x.giving(3, 7, 255), 15);
        keeps("giving of fours", x -> x.giving(1, 7, 255), 15);
        keeps("giving of the first four", x -> x.giving(1, 3, 255), 11);
        keeps("tooFew", x -> x.tooFew(3, 255), 0);
        keeps("steps: ROUNDS", x -> x.steps(3, 255, -1), 1);
        keeps("steps: FOUND", x -> x.steps(3, 255, 8), 255);
        keeps("steps: LINE 7", x -> x.steps(3, 255, 7), 1 << 15);
        keeps("steps of fours", x -> x.steps(1, 255, 7), bits(12, 13, 14, 15));
        keeps("safe for 16", x -> x.safe(3, 16, 255), 0);
        keeps("safe for 1, but for a WISH", x -> x.safe(3, 1, 255), 127);
        keeps("safe of fours", x -> x.safe(1, 4, 255), 127);
        keeps("safe of fours for 5", x -> x.safe(1, 5, 255), 0);
        keeps("linesOf", x -> x.linesOf(3, 15, 255), 128);
        keeps("linesOf fours", x -> x.linesOf(1, 15, 255), bits(4, 5, 6, 7));
    }

    private static void theGreatestOfTheSearches() {
        int[] fewest = {0, 0, 15};
        int[] questions = {2, 0, 22};
        int[] swap = {0, 0, 4, 7};
        for (int n = 0; n < 3; n++) {
            int what = n;
            keeps("fewest", x -> x.fewest(3, 7, what), fewest[n]);
            keeps("fewest, none are enough", x -> x.fewest(1, 7, what), -2);
            keeps("questions", x -> x.questions(1, 7, 255, what), questions[n]);
            keeps("questions, none needs be asked", x -> x.questions(3, 7, 255, what), n == 0 ? 0 : -3);
            keeps("together", x -> x.together(16, what), -2);
        }
        for (int n = 0; n < 4; n++) {
            int what = n;
            keeps("bestSwap", x -> x.bestSwap(1, 4, what), swap[n]);
        }
        keeps("bestSwap for 16", x -> x.bestSwap(3, 16, 3), 0);
    }

    private static void theGreatestOfBlurring() {
        int[] row = {3, 1, 1, 1, 0};
        for (int n = 0; n <= 4; n++) {
            int what = n;
            empties("blurring", Edges::full, EIGHT, x -> x.blurring(8, 16, 9999, what), row[n]);
        }
        empties("blurring: LOSS", Edges::full, EIGHT, x -> x.blurring(8, 16, 9999, -1), 12240);
    }

    private static void theGreatestOfChecks() {
        int[] right = {0, 0, 0, 15, 0, 0, 0, 7, 0, 0, 0, 3, 0, 0, 0, 0};
        empties("check", Edges::full, right, x -> x.check(3, 7, 4), NONE);
        empties("check of another one", Edges::full, right, x -> x.check(3, 6, 4), 0);
        keeps("count", x -> x.count(45), 16);
    }

    /** BOOK 0: LINES 0 and 4 are LINKED, and nobody FITS both. */
    private static void nobodyFits() {
        keeps("fits", x -> x.fits(0, 7, 0), 0);
        keeps("givings", x -> x.givings(0, 0), 0);
        keeps("odds", x -> x.odds(0, 0, 0, 0, 0), -2);
        keeps("mustBe", x -> x.mustBe(0, 0, 0, 0), 0);
        keeps("giving", x -> x.giving(0, 7, 0), -2);
        keeps("tooFew", x -> x.tooFew(0, 0), 1);
        keeps("steps", x -> x.steps(0, 0, 8), 0);
        keeps("steps: LINE 7", x -> x.steps(0, 0, 7), 0);
        keeps("steps: ROUNDS", x -> x.steps(0, 0, -1), 0);
        keeps("safe", x -> x.safe(0, 1, 0), 0);
        keeps("fewest", x -> x.fewest(0, 7, 0), -2);
        keeps("questions", x -> x.questions(0, 7, 0, 0), -2);
        keeps("linesOf", x -> x.linesOf(0, 7, 0), 0);
        keeps("bestSwap", x -> x.bestSwap(0, 1, 3), 0);
        keeps("together: the BOOK", x -> x.together(4, 0), 0);
        keeps("together: the LINE", x -> x.together(4, 1), 0);
        keeps("together: whom it may be", x -> x.together(4, 2), 0);
        keeps("together for 5", x -> x.together(5, 0), -2);
    }

    private static void onePastTheLastBook() {
        keeps("cut", x -> of(x.cut(4, 7)), NO);
        keeps("swap", x -> of(x.swap(4, 7, 6, 3)), NO);
        keeps("show", x -> of(x.show(4, true)), NO);
        keeps("line", x -> x.line(4, 7, 4), NONE);
        keeps("gossip", Edges::full, bytes("p<9"), x -> x.gossip(7, 4, 7, 3), NONE);
        keeps("fits", x -> x.fits(4, 7, 255), NONE);
        keeps("givings", x -> x.givings(4, 255), -1);
        keeps("odds", x -> x.odds(4, 7, 15, 255, 1), -1);
        keeps("mustBe", x -> x.mustBe(4, 7, 15, 255), NONE);
        keeps("giving", x -> x.giving(4, 7, 255), NONE);
        keeps("tooFew", x -> x.tooFew(4, 255), NONE);
        keeps("steps", x -> x.steps(4, 255, 8), NONE);
        keeps("safe", x -> x.safe(4, 16, 255), NONE);
        keeps("fewest", x -> x.fewest(4, 7, 2), NONE);
        keeps("questions", x -> x.questions(4, 7, 255, 2), NONE);
        keeps("bestSwap", x -> x.bestSwap(4, 16, 3), NONE);
        keeps("loss", x -> x.loss(4), NONE);
        keeps("linesOf", x -> x.linesOf(4, 15, 255), NONE);
        keeps("check", x -> x.check(4, 7, 0), -2);
    }

    private static void onePastTheLastLine() {
        keeps("cut", x -> of(x.cut(3, 8)), NO);
        keeps("swap", x -> of(x.swap(3, 8, 6, 3)), NO);
        keeps("swap with it", x -> of(x.swap(3, 6, 8, 3)), NO);
        keeps("line", x -> x.line(3, 8, 4), NONE);
        keeps("gossip", Edges::full, bytes("p<9"), x -> x.gossip(7, 3, 8, 3), NONE);
        keeps("fits", x -> x.fits(3, 8, 255), NONE);
        keeps("odds", x -> x.odds(3, 8, 15, 255, 1), -1);
        keeps("mustBe", x -> x.mustBe(3, 8, 15, 255), NONE);
        keeps("giving", x -> x.giving(3, 8, 255), NONE);
        keeps("steps", x -> x.steps(3, 255, 9), NONE);
        keeps("fewest", x -> x.fewest(3, 8, 2), NONE);
        keeps("questions", x -> x.questions(3, 8, 255, 2), NONE);
        keeps("check", x -> x.check(3, 8, 0), -2);
    }

    private static void onePastTheLastPerson() {
        keeps("wish", x -> of(x.wish(16, 16)), NO);
        keeps("odds", x -> x.odds(3, 7, 16, 255, 1), -1);
        keeps("mustBe", x -> x.mustBe(3, 7, 16, 255), NONE);
        keeps("linesOf", x -> x.linesOf(3, 16, 255), NONE);
        keeps("count", x -> x.count(46), NONE);
        empties("blurring", Edges::full, new int[] {16}, x -> x.blurring(1, 16, 9999, -1), -2);
    }

    private static void onePastAllThatIsKnown() {
        keeps("fits", x -> x.fits(3, 7, 256), NONE);
        keeps("givings", x -> x.givings(3, 256), -1);
        keeps("odds", x -> x.odds(3, 7, 15, 256, 1), -1);
        keeps("mustBe", x -> x.mustBe(3, 7, 15, 256), NONE);
        keeps("giving", x -> x.giving(3, 7, 256), NONE);
        keeps("tooFew", x -> x.tooFew(3, 256), NONE);
        keeps("steps", x -> x.steps(3, 256, 8), NONE);
        keeps("safe", x -> x.safe(3, 16, 256), NONE);
        keeps("questions", x -> x.questions(3, 7, 256, 2), NONE);
        keeps("linesOf", x -> x.linesOf(3, 15, 256), NONE);
    }
}
