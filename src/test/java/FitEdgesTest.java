/** The boundary cases of promises 16 to 23 and 30: who FITS, GIVINGS and what follows from them. */
public final class FitEdgesTest extends Edges {
    private static final int EVERYBODY = 65535;

    public static void main(String[] args) {
        fitsIsRefused();
        fitsOfNobodyAndOfAll();
        gossipsThatAreNotTold();
        gossipsOfOtherLines();
        fitsAsTheTreesAreNow();
        valuesOfAllColumns();
        linkedAlsoByOthers();
        theLongestWayOfLinks();
        aBookThatIsNotShownLeadsNowhere();
        aCutLineLeadsNowhere();
        backIntoItsOwnBook();
        givingsIsRefused();
        givingsOfNoLines();
        noGiving();
        theMostGivings();
        oddsIsRefused();
        oddsWithoutACommonDivisor();
        oddsOfAllAndOfNone();
        oddsOfNoGivingAndOfACutLine();
        mustBeIsRefused();
        mustMayAndCant();
        mustBeOfNoGiving();
        givingIsRefused();
        theLeastGiving();
        givingOfNoGivingAndOfACutLine();
        tooFewIsRefused();
        tooFewOfTheFewestLines();
        tooFewOfLikeOnesTheLeast();
        tooFewJustIfThereIsNoGiving();
        stepsIsRefused();
        stepsOfEachLine();
        noRound();
        theMostRounds();
        foundAtOnce();
        foundForGood();
        stepsOfCutLines();
        safeIsRefused();
        safeForTheLeastAndTheGreatest();
        safeByWishes();
        safeOfNoGivingAndOfACutLine();
        linesOfIsRefused();
        linesOfEach();
        linesOfNoGivingAndOfACutLine();
        askingChangesNothing();
        end();
    }

    /** LINES of all n PEOPLE in BOOK 0, GOSSIP i telling who FITS LINE i. */
    private static TwoFit lines(int n, String... texts) {
        TwoFit x = wide(n, texts.length);
        for (int i = 0; i < texts.length; i++) {
            tell(x, i, 0, i, texts[i]);
        }
        return x;
    }

    private static int row(TwoFit x, int lines) {
        int row = 0;
        for (int i = 0; i < lines; i++) {
            row = 10 * row + x.giving(0, i, 255);
        }
        return row;
    }

    // ---- promise 16

    private static void fitsIsRefused() {
        for (int no : beyond(0, 2)) {
            keeps("fits of BOOK " + no, Edges::town, TAPE, x -> x.fits(no, 0, 0), NONE);
        }
        for (int no : beyond(0, 3)) {
            keeps("fits of LINE " + no, Edges::town, TAPE, x -> x.fits(1, no, 0), NONE);
        }
        for (int no : beyond(0, 255)) {
            keeps("fits, known " + no, Edges::town, TAPE, x -> x.fits(0, 0, no), NONE);
            keeps("fits of a CUT one, known " + no, Edges::town, TAPE, x -> x.fits(0, 3, no), NONE);
        }
        keeps("fits of a CUT one", Edges::town, TAPE, x -> x.fits(0, 3, 0), -2);
        keeps("fits of a CUT one, all known", Edges::town, TAPE, x -> x.fits(0, 3, 255), -2);
    }

    private static void fitsOfNobodyAndOfAll() {
        TwoFit x = wide(16, 8);
        for (int i = 0; i < 8; i++) {
            due("all", x.fits(0, i, 0), EVERYBODY);
        }
        tell(x, 0, 0, 7, "p>15");
        tell(x, 7, 0, 7, "p=15");
        due("nobody", x.fits(0, 7, 1), 0);
        due("the last PERSON", x.fits(0, 7, 128), 1 << 15);
        due("nobody by both", x.fits(0, 7, 255), 0);
    }

    private static void gossipsThatAreNotTold() {
        TwoFit x = wide(4, 1);
        due("none are told", x.fits(0, 0, 255), 15);
        tell(x, 3, 0, 0, "p=1");
        due("all but the one that is told", x.fits(0, 0, 255 - 8), 15);
        due("all", x.fits(0, 0, 255), bits(1));
        tell(x, 4, 0, 0, "p=2?");
        due("what had a FAULT is not told", x.fits(0, 0, 16), 15);
    }

    private static void gossipsOfOtherLines() {
        TwoFit x = wide(4, 3);
        book(x, 1, 0, 0, 0, 3, 2, 1);
        tell(x, 0, 0, 1, "p=1");
        tell(x, 1, 1, 2, "p=2");
        for (int i = 0; i < 3; i++) {
            due("LINE " + i + " of BOOK 0", x.fits(0, i, 255), i == 1 ? bits(1) : 15);
            due("LINE " + i + " of BOOK 1", x.fits(1, i, 255), i == 2 ? bits(2) : 15);
        }
    }

    /** Who is BELOW is told by the TREES as they are now, also for PEOPLE that came later. */
    private static void fitsAsTheTreesAreNow() {
        TwoFit x = row(3);
        x.upper(0, 0, 16);
        x.upper(0, 1, 16);
        book(x, 1, 0, 0, 0, 0);
        due("below 16", x.fits(0, 0, 0), bits(0, 1));
        x.upper(0, 2, 17);
        x.upper(0, 17, 20);
        due("still", x.fits(0, 0, 0), bits(0, 1));
        x.upper(0, 1, -1);
        due("one less", x.fits(0, 0, 0), bits(0));
        x.upper(0, 15, 16);
        x.person(15, 0, 0, 0);
        due("one who came later", x.fits(0, 0, 0), bits(0, 3));
        x.upper(0, 0, 31);
        due("not who it is of", x.fits(0, 0, 0), bits(3));
        TwoFit y = new TwoFit();
        y.upper(0, 0, 16);
        y.person(5, 0, 0, 0);
        y.person(0, 0, 0, 0);
        book(y, 0, 0, 0, 0, 1);
        book(y, 1, 0, 0, 0, 1);
        due("a TREE that is older than the first PERSON", y.fits(0, 0, 0), bits(1));
        due("and its NODE", y.fits(1, 0, 0), bits(1));
    }

    /** "whose VALUES are BELOW all that it shows": in each COLUMN. */
    private static void valuesOfAllColumns() {
        TwoFit x = new TwoFit();
        x.person(5, 5, 5, 5);
        x.person(6, 5, 5, 5);
        x.person(5, 6, 5, 5);
        x.person(5, 5, 6, 5);
        x.person(5, 5, 5, 6);
        book(x, 0, 0, 0, 0, 0);
        book(x, 1, 0, 0, 0, 0);
        book(x, 0, 1, 0, 1, 0);
        book(x, 1, 1, 1, 1, 0);
        due("by all", x.fits(0, 0, 0), bits(0));
        due("by all but COLUMN 0", x.fits(1, 0, 0), bits(0, 1));
        due("by COLUMNS 0 and 2", x.fits(2, 0, 0), bits(0, 2, 4));
        due("by none", x.fits(3, 0, 0), 31);
    }

    /** Four BOOKS, LINE 0 of each LINKED to the next one's; GOSSIP b of that LINE. */
    private static TwoFit chain() {
        TwoFit x = wide(6, 2);
        for (int b = 1; b < 4; b++) {
            book(x, 1, 0, 0, 0, b, 5);
        }
        x.link(0, 0, 1, 0);
        x.link(2, 0, 1, 0);
        x.link(2, 0, 3, 0);
        tell(x, 0, 0, 0, "p<5");
        tell(x, 1, 1, 0, "!p=1");
        tell(x, 2, 2, 0, "p>0");
        tell(x, 3, 3, 0, "p<4");
        return x;
    }

    /** "(also by others: LINES of which each is LINKED to the next)". */
    private static void linkedAlsoByOthers() {
        TwoFit x = chain();
        for (int b = 0; b < 4; b++) {
            due("all four", x.fits(b, 0, 15), bits(2, 3));
            due("by the first one's GOSSIP", x.fits(b, 0, 1), bits(0, 1, 2, 3, 4));
            due("by the last one's GOSSIP", x.fits(b, 0, 8), bits(0, 1, 2, 3));
            due("by none", x.fits(b, 0, 0), 63);
            due("another LINE", x.fits(b, 1, 255), 63);
        }
        TwoFit y = row(4);
        book(y, 1, 0, 0, 0, 0);
        book(y, 0, 0, 0, 0, 2);
        book(y, 0, 0, 0, 0, 3);
        y.link(0, 0, 1, 0);
        due("by what the other one shows", y.fits(0, 0, 0), bits(2));
        y.link(0, 0, 2, 0);
        due("who FITS all of them: nobody", y.fits(0, 0, 0), 0);
    }

    /** Through all 32 LINES there are, whatever LINK is told first. */
    private static void theLongestWayOfLinks() {
        for (int order = 0; order < 2; order++) {
            TwoFit x = new TwoFit();
            for (int p = 0; p < 8; p++) {
                x.person(p, 0, 0, 0);
            }
            for (int b = 0; b < 4; b++) {
                book(x, 1, 0, 0, 0, 0, 1, 2, 3, 4, 5, 6, 7);
            }
            for (int n = 0; n < 31; n++) {
                int at = order == 0 ? n : 30 - n;
                due("LINK", x.link(at % 4, at / 4, (at + 1) % 4, (at + 1) / 4), n + 1);
            }
            tell(x, 0, 3, 7, "p>5");
            tell(x, 1, 0, 0, "p<7");
            due("the first LINE by the last one's GOSSIP", x.fits(0, 0, 1), bits(6, 7));
            due("the last LINE by the first one's GOSSIP", x.fits(3, 7, 2), 127);
            due("by both in the middle", x.fits(3, 3, 3), bits(6));
            x.cut(2, 4);
            due("one on the way is CUT", x.fits(0, 0, 3), 127);
            due("behind it", x.fits(3, 4, 3), bits(6, 7));
        }
    }

    /** "a LINK with a LINE of a BOOK that is not SHOWN .. leads nowhere"; its own need not be SHOWN. */
    private static void aBookThatIsNotShownLeadsNowhere() {
        TwoFit x = chain();
        x.show(2, false);
        due("up to it", x.fits(0, 0, 15), bits(0, 2, 3, 4));
        due("beside it", x.fits(1, 0, 15), bits(0, 2, 3, 4));
        due("its own", x.fits(2, 0, 15), bits(2, 3));
        due("behind it", x.fits(3, 0, 15), bits(0, 1, 2, 3));
        x.show(1, false);
        due("its own, the other one not SHOWN", x.fits(2, 0, 15), bits(1, 2, 3));
        due("the other one, its own", x.fits(1, 0, 15), bits(0, 2, 3, 4));
        due("the first", x.fits(0, 0, 15), bits(0, 1, 2, 3, 4));
        x.show(2, true);
        x.show(1, true);
        due("when they are SHOWN again", x.fits(0, 0, 15), bits(2, 3));
        for (int b = 0; b < 4; b++) {
            x.show(b, false);
        }
        due("none is SHOWN", x.fits(1, 0, 15), bits(0, 2, 3, 4, 5));
    }

    private static void aCutLineLeadsNowhere() {
        TwoFit x = chain();
        x.cut(1, 0);
        due("up to it", x.fits(0, 0, 15), bits(0, 1, 2, 3, 4));
        due("itself", x.fits(1, 0, 15), -2);
        due("behind it", x.fits(2, 0, 15), bits(1, 2, 3));
        due("the last", x.fits(3, 0, 15), bits(1, 2, 3));
        due("another LINE of its BOOK", x.fits(1, 1, 15), 63);
        TwoFit y = chain();
        y.show(0, false);
        y.cut(0, 0);
        due("CUT and not SHOWN", y.fits(1, 0, 15), bits(2, 3));
    }

    /** "a BOOK that is not SHOWN, but its own": back into it LINKS lead, and on from there. */
    private static void backIntoItsOwnBook() {
        TwoFit x = wide(6, 2);
        book(x, 1, 0, 0, 0, 2);
        book(x, 1, 0, 0, 0, 3);
        x.link(0, 0, 1, 0);
        x.link(1, 0, 0, 1);
        x.link(2, 0, 0, 1);
        tell(x, 0, 0, 1, "p>1");
        tell(x, 1, 2, 0, "p<4");
        due("back", x.fits(0, 0, 1), bits(2, 3, 4, 5));
        due("and on", x.fits(0, 0, 3), bits(2, 3));
        x.show(0, false);
        due("back, its own not SHOWN", x.fits(0, 0, 1), bits(2, 3, 4, 5));
        due("and on, its own not SHOWN", x.fits(0, 0, 3), bits(2, 3));
        due("not from another BOOK", x.fits(1, 0, 3), 63);
        due("nor from behind", x.fits(2, 0, 3), bits(0, 1, 2, 3));
        due("of nobody twice", x.givings(0, 3), 2);
    }

    // ---- promise 17

    private static void givingsIsRefused() {
        for (int no : beyond(0, 2)) {
            keeps("givings of BOOK " + no, Edges::town, TAPE, x -> x.givings(no, 0), -1);
        }
        for (int no : beyond(0, 255)) {
            keeps("givings, known " + no, Edges::town, TAPE, x -> x.givings(0, no), -1);
        }
    }

    /** "(of no LINES that are not CUT: 1)". */
    private static void givingsOfNoLines() {
        TwoFit x = lines(4, "p>9");
        due("nobody FITS", x.givings(0, 1), 0);
        x.cut(0, 0);
        due("of no LINES", x.givings(0, 1), 1);
        due("of no LINES, all known", x.givings(0, 255), 1);
    }

    private static void noGiving() {
        due("one of whom nobody FITS", lines(4, "p<4", "p>9").givings(0, 3), 0);
        due("two for one", lines(4, "p=1", "p=1").givings(0, 3), 0);
        due("three for two", lines(4, "p<2", "p<2", "p<2").givings(0, 7), 0);
        due("two for two", lines(4, "p<2", "p<2", "p<2").givings(0, 3), 4);
        due("who FITS all, one left out", lines(4, "p<2", "p<2", "p<2").givings(0, 6), 4);
        due("one for one", lines(4, "p=3").givings(0, 1), 1);
    }

    private static void theMostGivings() {
        due("of 16 PEOPLE, 8 LINES", wide(16, 8).givings(0, 0), 518918400L);
        due("of 16 PEOPLE, one LINE", wide(16, 1).givings(0, 0), 16);
        due("of 8 PEOPLE, 8 LINES", wide(8, 8).givings(0, 0), 40320);
        TwoFit x = wide(16, 8);
        x.show(0, false);
        due("of a BOOK that is not SHOWN", x.givings(0, 0), 518918400L);
        x.cut(0, 7);
        due("one is CUT", x.givings(0, 0), 57657600L);
    }

    // ---- promise 18

    private static void oddsIsRefused() {
        for (int no : beyond(0, 2)) {
            keeps("odds of BOOK " + no, Edges::town, TAPE, x -> x.odds(no, 0, 0, 0, 0), -1);
        }
        for (int no : beyond(0, 3)) {
            keeps("odds of LINE " + no, Edges::town, TAPE, x -> x.odds(1, no, 0, 0, 0), -1);
        }
        for (int no : beyond(0, 5)) {
            keeps("odds of PERSON " + no, Edges::town, TAPE, x -> x.odds(1, 0, no, 0, 0), -1);
        }
        for (int no : beyond(0, 255)) {
            keeps("odds, known " + no, Edges::town, TAPE, x -> x.odds(1, 0, 0, no, 0), -1);
        }
        for (int no : beyond(0, 1)) {
            keeps("odds, what " + no, Edges::town, TAPE, x -> x.odds(1, 0, 0, 0, no), -1);
            keeps("odds of a CUT one, what " + no, Edges::town, TAPE, x -> x.odds(0, 3, 0, 0, no), -1);
        }
        keeps("odds of a CUT one, known 256", Edges::town, TAPE, x -> x.odds(0, 3, 0, 256, 0), -1);
        keeps("odds of a CUT one, no such PERSON", Edges::town, TAPE, x -> x.odds(0, 3, 6, 0, 0), -1);
    }

    private static void oddsOf(String what, TwoFit x, int i, int p, long above, long below) {
        due(what + " above", x.odds(0, i, p, 255, 0), above);
        due(what + " below", x.odds(0, i, p, 255, 1), below);
    }

    private static void oddsWithoutACommonDivisor() {
        oddsOf("3 of 12", wide(4, 2), 1, 3, 1, 4);
        oddsOf("2 of 3", lines(3, "p<2", "p>0"), 0, 0, 2, 3);
        oddsOf("1 of 3", lines(3, "p<2", "p>0"), 0, 1, 1, 3);
        oddsOf("2 of 6", lines(4, "p<4", "p<2"), 0, 3, 1, 3);
        oddsOf("1 of 6", lines(4, "p<4", "p<2"), 0, 0, 1, 6);
        oddsOf("6 of 12", lines(4, "p<4", "p<3", "p<3"), 0, 3, 1, 2);
        oddsOf("32432400 of 518918400", wide(16, 8), 7, 15, 1, 16);
        oddsOf("the most below", lines(16, "p<16", "p<15", "p<16", "p<16", "p<16", "p<16", "p<16", "p<16"), 0, 0, 14, 225);
        oddsOf("the most above", lines(16, "p<16", "p<15", "p<16", "p<16", "p<16", "p<16", "p<16", "p<16"), 0, 15, 1, 15);
    }

    private static void oddsOfAllAndOfNone() {
        oddsOf("all of them", lines(4, "p=2"), 0, 2, 1, 1);
        oddsOf("all of them, by another LINE", lines(4, "p=2", "p=2|p=3"), 1, 3, 1, 1);
        oddsOf("none, who FITS", lines(4, "p=2", "p=2|p=3"), 1, 2, 0, 1);
        oddsOf("none, who FITS not", lines(4, "p=2", "p<4"), 0, 3, 0, 1);
    }

    private static void oddsOfNoGivingAndOfACutLine() {
        TwoFit x = lines(4, "p=2", "p=2", "p<4");
        for (int what = 0; what < 2; what++) {
            due("no GIVING", x.odds(0, 0, 2, 3, what), -2);
            due("no GIVING by other LINES", x.odds(0, 2, 0, 3, what), -2);
            due("NONE ahead of no GIVING", x.odds(0, 2, 4, 3, what), -1);
        }
        x.cut(0, 1);
        due("a CUT one", x.odds(0, 1, 2, 3, 0), -2);
        due("a GIVING again", x.odds(0, 0, 2, 3, 0), 1);
        due("of it", x.odds(0, 0, 2, 3, 1), 1);
        keeps("odds", Edges::town, TAPE, y -> y.odds(0, 1, 1, 1, 0), 1);
    }

    // ---- promise 19

    private static void mustBeIsRefused() {
        for (int no : beyond(0, 2)) {
            keeps("mustBe of BOOK " + no, Edges::town, TAPE, x -> x.mustBe(no, 0, 0, 0), NONE);
        }
        for (int no : beyond(0, 3)) {
            keeps("mustBe of LINE " + no, Edges::town, TAPE, x -> x.mustBe(1, no, 0, 0), NONE);
        }
        for (int no : beyond(0, 5)) {
            keeps("mustBe of PERSON " + no, Edges::town, TAPE, x -> x.mustBe(1, 0, no, 0), NONE);
            keeps("mustBe of a CUT one, PERSON " + no, Edges::town, TAPE, x -> x.mustBe(0, 3, no, 0), NONE);
        }
        for (int no : beyond(0, 255)) {
            keeps("mustBe, known " + no, Edges::town, TAPE, x -> x.mustBe(1, 0, 0, no), NONE);
            keeps("mustBe of a CUT one, known " + no, Edges::town, TAPE, x -> x.mustBe(0, 3, 0, no), NONE);
        }
        keeps("mustBe of a CUT one", Edges::town, TAPE, x -> x.mustBe(0, 3, 3, 0), -2);
    }

    private static void mustMayAndCant() {
        TwoFit x = lines(5, "p<2", "p<2", "p<3", "p>1");
        int[] third = {0, 0, 2, 0, 0};
        int[] fourth = {0, 0, 0, 1, 1};
        for (int p = 0; p < 5; p++) {
            due("LINE 0, PERSON " + p, x.mustBe(0, 0, p, 15), p < 2 ? 1 : 0);
            due("LINE 2, PERSON " + p, x.mustBe(0, 2, p, 15), third[p]);
            due("LINE 3, PERSON " + p, x.mustBe(0, 3, p, 15), fourth[p]);
            due("none known, PERSON " + p, x.mustBe(0, 3, p, 0), 1);
        }
        due("the last of eight MUST be", wide(8, 8).mustBe(0, 7, 7, 0), 1);
        due("the only one of one", wide(1, 1).mustBe(0, 0, 0, 0), 2);
        TwoFit y = wide(16, 8);
        due("PERSON 15", y.mustBe(0, 7, 15, 0), 1);
    }

    /** "(No GIVING: 0.)", also of one whom alone the LINE FITS. */
    private static void mustBeOfNoGiving() {
        TwoFit x = lines(4, "p=2", "p=3", "p=3");
        due("MUST ahead of it", x.mustBe(0, 0, 2, 3), 2);
        for (int p = 0; p < 4; p++) {
            due("no GIVING", x.mustBe(0, 0, p, 7), 0);
            due("no GIVING of these", x.mustBe(0, 2, p, 7), 0);
        }
        x.cut(0, 1);
        due("a GIVING again", x.mustBe(0, 2, 3, 7), 2);
        due("NONE ahead of it", x.mustBe(0, 0, 4, 7), NONE);
    }

    // ---- promise 20

    private static void givingIsRefused() {
        for (int no : beyond(0, 2)) {
            keeps("giving of BOOK " + no, Edges::town, TAPE, x -> x.giving(no, 0, 0), NONE);
        }
        for (int no : beyond(0, 3)) {
            keeps("giving of LINE " + no, Edges::town, TAPE, x -> x.giving(1, no, 0), NONE);
        }
        for (int no : beyond(0, 255)) {
            keeps("giving, known " + no, Edges::town, TAPE, x -> x.giving(1, 0, no), NONE);
            keeps("giving of a CUT one, known " + no, Edges::town, TAPE, x -> x.giving(0, 3, no), NONE);
        }
        keeps("giving of a CUT one", Edges::town, TAPE, x -> x.giving(0, 3, 0), -2);
    }

    /** "by LINES the least row": the first LINE's is as small as can be, then the second's. */
    private static void theLeastGiving() {
        due("as they come", row(wide(8, 8), 8), 1234567);
        due("what is taken is passed over", row(lines(4, "p<2", "p=0"), 2), 10);
        due("the first LINE counts most", row(lines(4, "p>0", "p<2"), 2), 10);
        due("a LINE gives way as little as can be", row(lines(5, "p<4", "p<3", "p=0|p=1", "p=0|p=1"), 4), 3201);
        due("all the last ones", row(lines(8, "p>4", "p>4", "p>4"), 3), 567);
        TwoFit x = lines(4, "p<2", "p<2", "p<3");
        due("three", row(x, 3), 12);
        x.cut(0, 0);
        due("a CUT one takes nobody", x.giving(0, 1, 7), 0);
        due("nor of the next one", x.giving(0, 2, 7), 1);
        due("PERSON 15 of LINE 7", lines(16, "p=0", "p=1", "p=2", "p=3", "p=4", "p=5", "p=6", "p=15").giving(0, 7, 255), 15);
    }

    private static void givingOfNoGivingAndOfACutLine() {
        TwoFit x = lines(4, "p<4", "p=3", "p=3");
        due("there is none", x.giving(0, 0, 7), -2);
        due("of none of them", x.giving(0, 2, 7), -2);
        due("nobody FITS a LINE ahead of it", lines(4, "p>9", "p<4", "p=3").giving(0, 1, 7), -2);
        due("nor the last one's", lines(4, "p>9", "p<4", "p=3").giving(0, 2, 7), -2);
        due("nobody FITS a LINE behind it", lines(4, "p=3", "p<4", "p>9").giving(0, 0, 7), -2);
        due("NONE ahead of it", x.giving(0, 3, 7), NONE);
        due("with one known less", x.giving(0, 2, 5), 3);
        x.cut(0, 2);
        due("a CUT one", x.giving(0, 2, 7), -2);
        due("then there is one", x.giving(0, 1, 7), 3);
    }

    // ---- promise 21

    private static void tooFewIsRefused() {
        for (int no : beyond(0, 2)) {
            keeps("tooFew of BOOK " + no, Edges::town, TAPE, x -> x.tooFew(no, 0), NONE);
        }
        for (int no : beyond(0, 255)) {
            keeps("tooFew, known " + no, Edges::town, TAPE, x -> x.tooFew(0, no), NONE);
        }
    }

    private static void tooFewOfTheFewestLines() {
        due("one of nobody ahead of two of one", lines(4, "p=1", "p=1", "p>9").tooFew(0, 255), bits(2));
        due("two ahead of three", lines(6, "p<2", "p<2", "p<2", "p=3", "p=3").tooFew(0, 255), bits(3, 4));
        due("three of two", lines(4, "p<2", "p=9|p<2", "p<4", "p<2").tooFew(0, 255), bits(0, 1, 3));
        due("eight of seven", wide(8, 8).tooFew(0, 0), 0);
        TwoFit x = lines(8, "p<7", "p<7", "p<7", "p<7", "p<7", "p<7", "p<7", "p<7");
        due("eight for seven", x.tooFew(0, 255), 255);
        due("seven for seven", x.tooFew(0, 127), 0);
    }

    /** "of like ones the least": the lowest as bits. */
    private static void tooFewOfLikeOnesTheLeast() {
        due("of two LINES", lines(4, "p>8", "p=1", "p>9").tooFew(0, 255), bits(0));
        due("the last ones of nobody", lines(4, "p=1", "p>8", "p>9").tooFew(0, 255), bits(1));
        due("of three pairs", lines(4, "p=1", "p=1", "p=1").tooFew(0, 255), bits(0, 1));
        due("of pairs in one another", lines(4, "p=1", "p=2", "p=2", "p=1").tooFew(0, 255), bits(1, 2));
        due("of pairs side by side", lines(4, "p=1", "p=2", "p=1", "p=2").tooFew(0, 255), bits(0, 2));
    }

    /** "(There is one just if there is no GIVING.)" */
    private static void tooFewJustIfThereIsNoGiving() {
        String[] texts = {"p<1", "p<2", "p>2", "p=1", "p<4"};
        for (int kinds = 0; kinds < 625; kinds++) {
            TwoFit x = lines(4, texts[kinds % 5], texts[kinds / 5 % 5], texts[kinds / 25 % 5], texts[kinds / 125]);
            due("kinds " + kinds, x.tooFew(0, 255) == 0, x.givings(0, 255) > 0);
        }
        TwoFit x = lines(4, "p>9", "p<4");
        due("one of nobody", x.tooFew(0, 1), 1);
        x.cut(0, 0);
        due("it is CUT", x.tooFew(0, 1), 0);
        keeps("tooFew", Edges::town, TAPE, y -> y.tooFew(1, 255), 0);
    }

    // ---- promise 22

    private static void stepsIsRefused() {
        for (int no : beyond(0, 2)) {
            keeps("steps of BOOK " + no, Edges::town, TAPE, x -> x.steps(no, 0, -1), NONE);
        }
        for (int no : beyond(0, 255)) {
            keeps("steps, known " + no, Edges::town, TAPE, x -> x.steps(0, no, 8), NONE);
            keeps("steps of a CUT one, known " + no, Edges::town, TAPE, x -> x.steps(0, no, 3), NONE);
        }
        for (int no : new int[] {-2, 4, 5, 6, 7, 9, Integer.MIN_VALUE, Integer.MAX_VALUE}) {
            keeps("steps, what " + no, Edges::town, TAPE, x -> x.steps(1, 0, no), NONE);
        }
        for (int no : new int[] {-2, 9, 10}) {
            keeps("steps of eight LINES, what " + no, Edges::full, TAPE, x -> x.steps(1, 0, no), NONE);
        }
    }

    private static void stepsOfEachLine() {
        TwoFit x = lines(16, "p=15", "p>13", "p<3", "p<4", "p<5", "p<6", "p<7", "p>12");
        due("ROUNDS", x.steps(0, 255, -1), 3);
        due("FOUND", x.steps(0, 255, 8), bits(0, 1, 7));
        due("left to LINE 0", x.steps(0, 255, 0), bits(15));
        due("left to LINE 1", x.steps(0, 255, 1), bits(14));
        due("left to LINE 2", x.steps(0, 255, 2), bits(0, 1, 2));
        due("left to LINE 6", x.steps(0, 255, 6), bits(0, 1, 2, 3, 4, 5, 6));
        due("left to LINE 7", x.steps(0, 255, 7), bits(13));
        due("one LINE, itself", lines(4, "p=2").steps(0, 1, 0), bits(2));
        due("one LINE, no second", lines(4, "p=2").steps(0, 1, 1), NONE);
        due("one LINE, FOUND", lines(4, "p=2").steps(0, 1, 8), 1);
        keeps("steps", Edges::town, TAPE, y -> y.steps(0, 255, 8), bits(0, 1));
    }

    /** "(that one does not count)": a ROUND that changes nothing. */
    private static void noRound() {
        TwoFit x = wide(4, 3);
        due("none is FOUND", x.steps(0, 0, -1), 0);
        due("which", x.steps(0, 0, 8), 0);
        due("who is left", x.steps(0, 0, 2), 15);
        TwoFit y = lines(4, "p>9", "p<2", "p<2");
        due("of whom nobody FITS, is not FOUND", y.steps(0, 7, -1), 0);
        due("nobody is left", y.steps(0, 7, 0), 0);
        due("two of two are not told apart", y.steps(0, 7, 8), 0);
        due("a ROUND in which one is FOUND and nobody taken", lines(4, "p=0", "p>0").steps(0, 3, -1), 1);
    }

    private static void theMostRounds() {
        TwoFit x = lines(8, "p<1", "p<2", "p<3", "p<4", "p<5", "p<6", "p<7", "p<8");
        due("one after the other", x.steps(0, 255, -1), 8);
        due("all are FOUND", x.steps(0, 255, 8), 255);
        for (int i = 0; i < 8; i++) {
            due("LINE " + i, x.steps(0, 255, i), 1 << i);
        }
        due("but the first", x.steps(0, 254, -1), 0);
        due("from the last on", lines(8, "p>0", "p>1", "p>2", "p>3", "p>4", "p>5", "p>6").steps(0, 127, -1), 7);
        due("all at once", lines(4, "p=3", "p=2", "p=1", "p=0").steps(0, 15, -1), 1);
    }

    /** "(all LINES looked at as ahead of the ROUND)". */
    private static void foundAtOnce() {
        TwoFit x = lines(4, "p=0", "p=0", "p<2", "p<3");
        due("both are FOUND", x.steps(0, 3, 8), bits(0, 1));
        due("and it is taken from one", x.steps(0, 3, 0), 0);
        due("and from the other one", x.steps(0, 3, 1), 0);
        due("one ROUND", x.steps(0, 3, -1), 1);
        due("on from there", x.steps(0, 15, -1), 3);
        due("all are FOUND", x.steps(0, 15, 8), 15);
        TwoFit y = lines(4, "p=0", "p<2", "p=1");
        due("who is FOUND is taken at once", y.steps(0, 7, -1), 1);
        due("both are taken from the one between", y.steps(0, 7, 1), 0);
        due("it is not FOUND", y.steps(0, 7, 8), bits(0, 2));
        TwoFit z = lines(4, "p<2", "p=1", "p<2", "p<3");
        due("two that come down to one at once", z.steps(0, 15, -1), 3);
        due("are FOUND", z.steps(0, 15, 8), 15);
        due("and lose it", z.steps(0, 15, 0) | z.steps(0, 15, 2), 0);
        due("the last one has what is left", z.steps(0, 15, 3), bits(2));
    }

    private static void foundForGood() {
        TwoFit x = lines(4, "p=0", "p=0");
        due("FOUND, though nobody is left", x.steps(0, 3, 8), 3);
        due("three of one", lines(4, "p=0", "p=0", "p=0").steps(0, 7, 8), 7);
        due("three of one, ROUNDS", lines(4, "p=0", "p=0", "p=0").steps(0, 7, -1), 1);
    }

    /** "(bits; -2: it is CUT)". */
    private static void stepsOfCutLines() {
        keeps("a CUT one", Edges::town, TAPE, x -> x.steps(0, 0, 3), -2);
        TwoFit x = lines(4, "p=0", "p<2");
        due("FOUND by the other one", x.steps(0, 3, 1), bits(1));
        x.cut(0, 0);
        due("none is FOUND", x.steps(0, 3, 8), 0);
        due("it takes nobody", x.steps(0, 3, 1), bits(0, 1));
        due("a CUT LINE", x.steps(0, 3, 0), -2);
        due("no ROUND", x.steps(0, 3, -1), 0);
        x.cut(0, 1);
        due("of no LINES", x.steps(0, 3, -1), 0);
        TwoFit y = wide(16, 8);
        y.cut(0, 7);
        y.cut(0, 0);
        due("the last of eight", y.steps(0, 0, 7), -2);
        due("the first of eight", y.steps(0, 0, 0), -2);
        due("one between", y.steps(0, 0, 6), EVERYBODY);
    }

    // ---- promise 23

    private static void safeIsRefused() {
        for (int no : beyond(0, 2)) {
            keeps("safe of BOOK " + no, Edges::town, TAPE, x -> x.safe(no, 1, 0), NONE);
        }
        for (int no : beyond(1, 16)) {
            keeps("safe for " + no, Edges::town, TAPE, x -> x.safe(0, no, 0), NONE);
        }
        for (int no : beyond(0, 255)) {
            keeps("safe, known " + no, Edges::town, TAPE, x -> x.safe(0, 1, no), NONE);
        }
    }

    /** "of at least k PEOPLE", k 1 to 16; whom it MUST be counts as one. */
    private static void safeForTheLeastAndTheGreatest() {
        TwoFit x = wide(16, 8);
        due("16 of 16", x.safe(0, 16, 0), 255);
        due("1 of 16", x.safe(0, 1, 0), 255);
        tell(x, 0, 0, 3, "p<15");
        due("15 of 16", x.safe(0, 16, 1), 255 - 8);
        due("15 for 15", x.safe(0, 15, 1), 255);
        tell(x, 1, 0, 3, "p=3");
        due("it MUST be for 1", x.safe(0, 1, 2), 255);
        due("it MUST be, not for 2", x.safe(0, 2, 2), 255 - 8);
        due("the others MAY be for 15", x.safe(0, 15, 2), 255 - 8);
        due("not for 16", x.safe(0, 16, 2), 0);
        due("of one PERSON", wide(1, 1).safe(0, 1, 0), 1);
        due("of one PERSON for 2", wide(1, 1).safe(0, 2, 0), 0);
        keeps("safe", Edges::town, TAPE, y -> y.safe(0, 2, 0), bits(0, 1, 2));
    }

    /** "and of as many as the WISH of whom it is of", whatever k is. */
    private static void safeByWishes() {
        TwoFit x = wide(4, 3);
        x.wish(1, 4);
        due("4 of 4", x.safe(0, 1, 0), 7);
        x.wish(1, 5);
        due("5 of 4", x.safe(0, 1, 0), bits(0, 2));
        x.wish(1, 16);
        due("16 of 4", x.safe(0, 4, 0), bits(0, 2));
        x.wish(1, 1);
        due("1, but k 5", x.safe(0, 5, 0), 0);
        x.wish(3, 16);
        due("one of whom no LINE is", x.safe(0, 4, 0), 7);
        x.wish(1, 0);
        x.wish(0, 2);
        tell(x, 0, 0, 0, "p=0");
        due("a WISH of 2 where it MUST be", x.safe(0, 1, 1), bits(1, 2));
        TwoFit y = town();
        due("whose it is counts, not who FITS", y.safe(0, 2, 0), 7);
        y.swap(0, 0, 2, 0);
        y.wish(0, 3);
        due("also when it is SWAPPED", y.safe(0, 1, 0), bits(1, 2));
    }

    private static void safeOfNoGivingAndOfACutLine() {
        TwoFit x = lines(4, "p<4", "p>9", "p<4");
        due("no GIVING", x.safe(0, 1, 2), 0);
        x.cut(0, 1);
        due("a CUT one is none", x.safe(0, 1, 2), bits(0, 2));
        due("for 4", x.safe(0, 4, 2), bits(0, 2));
    }

    // ---- promise 30

    private static void linesOfIsRefused() {
        for (int no : beyond(0, 2)) {
            keeps("linesOf BOOK " + no, Edges::town, TAPE, x -> x.linesOf(no, 0, 0), NONE);
        }
        for (int no : beyond(0, 5)) {
            keeps("linesOf PERSON " + no, Edges::town, TAPE, x -> x.linesOf(0, no, 0), NONE);
        }
        for (int no : beyond(0, 255)) {
            keeps("linesOf, known " + no, Edges::town, TAPE, x -> x.linesOf(0, 0, no), NONE);
        }
    }

    private static void linesOfEach() {
        TwoFit x = lines(5, "p<2", "p<2", "p<3", "p>1");
        int[] lines = {3, 3, 4, 8, 8};
        for (int p = 0; p < 5; p++) {
            due("PERSON " + p, x.linesOf(0, p, 15), lines[p]);
            due("none known", x.linesOf(0, p, 0), 15);
        }
        due("PERSON 15 of eight", wide(16, 8).linesOf(0, 15, 0), 255);
        keeps("linesOf of nobody's", Edges::town, TAPE, y -> y.linesOf(0, 5, 0), 0);
    }

    private static void linesOfNoGivingAndOfACutLine() {
        TwoFit x = lines(4, "p=1", "p=1", "p<4");
        due("no GIVING", x.linesOf(0, 1, 7), 0);
        due("of nobody", x.linesOf(0, 3, 7), 0);
        x.cut(0, 1);
        due("a CUT one is none", x.linesOf(0, 1, 7), 1);
        due("of another one", x.linesOf(0, 3, 7), 4);
        x.cut(0, 0);
        x.cut(0, 2);
        due("of no LINES", x.linesOf(0, 1, 7), 0);
    }

    private static void askingChangesNothing() {
        keeps("fits", Edges::town, TAPE, x -> x.fits(0, 0, 255), bits(0));
        keeps("givings", Edges::town, TAPE, x -> x.givings(0, 0), 4);
        keeps("odds", Edges::town, TAPE, x -> x.odds(0, 2, 2, 0, 1), 2);
        keeps("mustBe", Edges::town, TAPE, x -> x.mustBe(0, 1, 1, 1), 2);
        keeps("giving", Edges::town, TAPE, x -> x.giving(0, 2, 0), 2);
    }
}
