/** The boundary cases of promises 9 to 13 and 15: BOOKS, LINES that are CUT and SWAPPED, LINKS. */
public final class BookEdgesTest extends Edges {
    public static void main(String[] args) {
        aBookOfOneLineAndOfEight();
        aBookOfEachLevel();
        aBookIsRefused();
        aBookHasNotSoMany();
        fourBooksAreThere();
        noSuchPeople();
        onePersonTwice();
        noneIsToldAheadOfNoSuchPeople();
        bytesBehindTheBookAreNotLookedAt();
        aBookIsAsTheTreesAreWhenItIsMade();
        peopleOfLikeValuesAndOfTwoBooks();
        aBookIsShownAtFirst();
        cutIsRefused();
        aCutLineIsNoneInAllThatFollows();
        theLastLinesAreCut();
        swapIsRefused();
        swapOfLinesThatShowTheSame();
        swapIsBothWays();
        swapWithAll();
        swapOfTheGreatest();
        showIsRefused();
        showIsSo();
        showOfEach();
        linkIsRefused();
        linksOfOneBook();
        fortyLinksAreThere();
        cutOnesAreLinkedToo();
        linesToldTwiceAreLinkedToo();
        lineOfEach();
        lineIsRefused();
        lineIsCut();
        end();
    }

    // ---- promise 9

    private static void aBookOfOneLineAndOfEight() {
        TwoFit x = row(16);
        due("of one", book(x, 0, 0, 0, 0, 15), 0);
        due("its LINES", x.count(10), 1);
        due("of eight", book(x, 0, 0, 0, 0, 15, 14, 13, 12, 3, 2, 1, 0), 1);
        due("their LINES", x.count(11), 8);
        int[] owners = {15, 14, 13, 12, 3, 2, 1, 0};
        for (int i = 0; i < 8; i++) {
            due("whose it is", x.line(1, i, 4), owners[i]);
            due("what it shows", x.line(1, i, 0), owners[i]);
        }
        due("no ninth", x.line(1, 8, 4), NONE);
    }

    /** LEVELS 0 to 4, one for each COLUMN. */
    private static void aBookOfEachLevel() {
        int[] nodes = {7, 16, 18, 24, 31};
        for (int c = 0; c < 4; c++) {
            TwoFit x = new TwoFit();
            for (int n = 1; n <= 4; n++) {
                x.upper(c, nodes[n - 1], nodes[n]);
            }
            x.person(7, 7, 7, 7);
            for (int level = 1; level <= 4; level++) {
                int b = book(x, c == 0 ? level : 0, c == 1 ? level : 0, c == 2 ? level : 0, c == 3 ? level : 0, 0);
                due("the BOOK", b, level - 1);
                for (int other = 0; other < 4; other++) {
                    due("LEVEL " + level, x.line(b, 0, other), other == c ? nodes[level] : 7);
                }
            }
        }
    }

    private static void aBookIsRefused() {
        for (int no : beyond(1, 8)) {
            keeps("a BOOK of " + no, Edges::town, TAPE, x -> x.book(no, 0, 0, 0, 0), NONE);
        }
        for (int no : beyond(0, 4)) {
            keeps("LEVEL " + no + " of COLUMN 0", Edges::town, TAPE, x -> x.book(3, no, 0, 0, 0), NONE);
            keeps("LEVEL " + no + " of COLUMN 1", Edges::town, TAPE, x -> x.book(3, 0, no, 0, 0), NONE);
            keeps("LEVEL " + no + " of COLUMN 2", Edges::town, TAPE, x -> x.book(3, 0, 0, no, 0), NONE);
            keeps("LEVEL " + no + " of COLUMN 3", Edges::town, TAPE, x -> x.book(3, 0, 0, 0, no), NONE);
        }
    }

    private static void aBookHasNotSoMany() {
        for (int n = 1; n <= 8; n++) {
            int many = n;
            keeps("the tape has not " + n, Edges::town, EMPTY, x -> x.book(many, 0, 0, 0, 0), NONE);
        }
    }

    private static void fourBooksAreThere() {
        TwoFit x = row(2);
        for (int b = 0; b < 4; b++) {
            due("BOOKS", x.count(1), b);
            due("a BOOK", book(x, 0, 0, 0, 0, b % 2), b);
        }
        due("a fifth", book(x, 0, 0, 0, 0, 0), NONE);
        due("BOOKS at most", x.count(1), 4);
        due("its tape stays", x.count(4), 20);
        keeps("a fifth of a full town", Edges::full, TAPE, y -> y.book(3, 0, 0, 0, 0), NONE);
        keeps("a fifth of one twice", Edges::full, EMPTY, y -> y.book(1, 0, 0, 0, 0), NONE);
    }

    /** "-2: no such PEOPLE", in each place; the tape is empty then. */
    private static void noSuchPeople() {
        for (int at = 0; at < 5; at++) {
            for (int nobody : new int[] {6, 7, 16, 128, 255}) {
                int[] tape = {0, 1, 2, 3, 4};
                tape[at] = nobody;
                empties("PERSON " + nobody + " at " + at, Edges::town, tape, x -> x.book(5, 0, 0, 0, 0), -2);
            }
        }
        TwoFit x = town();
        due("no BOOK", book(x, 0, 0, 0, 0, 6), -2);
        due("the next one's number", book(x, 0, 0, 0, 0, 5), 3);
        TwoFit y = row(1);
        due("PERSON 1 of one", book(y, 0, 0, 0, 0, 1), -2);
        y.person(1, 0, 0, 0);
        due("PERSON 1 of two", book(y, 0, 0, 0, 0, 1), 0);
    }

    /** "-2: .. one twice". */
    private static void onePersonTwice() {
        for (int at = 0; at < 8; at++) {
            for (int other = 0; other < at; other++) {
                int[] tape = {0, 1, 2, 3, 4, 5, 6, 7};
                tape[at] = other;
                TwoFit x = row(8);
                feed(x, tape);
                due("PERSON " + other + " at " + at, x.book(8, 0, 0, 0, 0), -2);
                due("empty then", x.count(4), 0);
                due("no BOOK", x.count(1), 0);
            }
        }
        empties("one twice", Edges::town, new int[] {5, 0, 5}, x -> x.book(3, 0, 0, 0, 0), -2);
    }

    private static void noneIsToldAheadOfNoSuchPeople() {
        int[] twice = {0, 0, 99};
        keeps("LEVEL 5 and one twice", Edges::town, twice, x -> x.book(2, 5, 0, 0, 0), NONE);
        keeps("LEVEL -1 and nobody", Edges::town, twice, x -> x.book(3, 0, 0, 0, -1), NONE);
        keeps("of nine and one twice", Edges::town, twice, x -> x.book(9, 0, 0, 0, 0), NONE);
        keeps("a fifth and one twice", Edges::full, twice, x -> x.book(2, 0, 0, 0, 0), NONE);
    }

    private static void bytesBehindTheBookAreNotLookedAt() {
        TwoFit x = row(3);
        feed(x, 2, 2, 255, 9);
        feed(x, 0);
        due("of one", x.book(1, 0, 0, 0, 0), 0);
        due("all of the tape is empty then", x.count(4), 0);
        feed(x, 2, 1, 2, 9);
        due("of two", x.book(2, 0, 0, 0, 0), 1);
        feed(x, 2, 1, 2, 9);
        due("of three, one twice", x.book(3, 0, 0, 0, 0), -2);
    }

    /** "(as the TREES are when it is made)". */
    private static void aBookIsAsTheTreesAreWhenItIsMade() {
        TwoFit x = row(2);
        x.upper(0, 0, 16);
        book(x, 2, 0, 0, 0, 0, 1);
        x.upper(0, 0, 17);
        x.upper(0, 16, 20);
        x.upper(0, 17, 21);
        due("ALL stays", x.line(0, 0, 0), 32);
        book(x, 2, 0, 0, 0, 0, 1);
        due("as they are now", x.line(1, 0, 0), 21);
        due("where there is no UPPER", x.line(1, 1, 0), 32);
        x.upper(0, 17, -1);
        due("stays when the way is none", x.line(1, 0, 0), 21);
        due("but nobody is BELOW it", x.fits(1, 0, 0), 0);
    }

    private static void peopleOfLikeValuesAndOfTwoBooks() {
        TwoFit x = new TwoFit();
        x.person(3, 3, 3, 3);
        x.person(3, 3, 3, 3);
        due("both in one BOOK", book(x, 0, 0, 0, 0, 1, 0), 0);
        due("both FIT", x.fits(0, 0, 0), bits(0, 1));
        due("the same in another BOOK", book(x, 0, 0, 0, 0, 1, 0), 1);
    }

    private static void aBookIsShownAtFirst() {
        TwoFit x = row(1);
        int shown = 0;
        for (int b = 0; b < 4; b++) {
            book(x, 0, 0, 0, 0, 0);
            shown |= 1 << b;
            due("SHOWN BOOKS", x.count(5), shown);
        }
    }

    // ---- promise 10

    private static void cutIsRefused() {
        for (int no : beyond(0, 2)) {
            keeps("cut of BOOK " + no, Edges::town, TAPE, x -> of(x.cut(no, 0)), NO);
        }
        for (int no : beyond(0, 3)) {
            keeps("cut of LINE " + no, Edges::town, TAPE, x -> of(x.cut(1, no)), NO);
        }
        keeps("LINE 2 of two", Edges::town, TAPE, x -> of(x.cut(2, 2)), NO);
        for (int no : beyond(0, 7)) {
            keeps("cut of LINE " + no + " of eight", Edges::full, TAPE, x -> of(x.cut(3, no)), NO);
        }
        keeps("it is CUT", Edges::town, TAPE, x -> of(x.cut(0, 3)), NO);
        TwoFit x = town();
        due("one of a BOOK that is not SHOWN", x.cut(2, 1), true);
        due("it is CUT, too", x.cut(2, 1), false);
    }

    /** "(it is none in all that follows)"; it is counted, and whose it is is told. */
    private static void aCutLineIsNoneInAllThatFollows() {
        TwoFit x = wide(4, 3);
        due("cut", x.cut(0, 1), true);
        for (int c = 0; c < 4; c++) {
            due("it shows nothing", x.line(0, 1, c), -2);
        }
        due("whose it is", x.line(0, 1, 4), 1);
        due("LINES", x.count(10), 3);
        due("fits", x.fits(0, 1, 0), -2);
        due("givings", x.givings(0, 0), 12);
        due("odds", x.odds(0, 1, 1, 0, 0), -2);
        due("mustBe", x.mustBe(0, 1, 1, 0), -2);
        due("giving", x.giving(0, 1, 0), -2);
        due("the next LINE's", x.giving(0, 2, 0), 1);
        due("steps", x.steps(0, 0, 1), -2);
        due("safe", x.safe(0, 1, 0), bits(0, 2));
        due("fewest", x.fewest(0, 1, 0), -2);
        due("questions", x.questions(0, 1, 0, 0), -2);
        due("loss", x.loss(0), 30);
        due("linesOf", x.linesOf(0, 1, 0), bits(0, 2));
        due("check", x.check(0, 1, 0), -2);
        due("swap", x.swap(0, 1, 0, 0), false);
        due("gossip", tell(x, 0, 0, 1, "p=1"), NONE);
        due("no GOSSIP", x.count(3), 0);
        due("the other LINES stay", x.fits(0, 0, 0), 15);
    }

    private static void theLastLinesAreCut() {
        TwoFit x = wide(16, 8);
        for (int i = 0; i < 8; i++) {
            due("LINE " + i, x.cut(0, i), true);
        }
        due("LINES", x.count(10), 8);
        due("of no LINES", x.givings(0, 0), 1);
        due("none is SAFE", x.safe(0, 1, 0), 0);
        due("none are TOO FEW", x.tooFew(0, 0), 0);
        due("none is found", x.steps(0, 0, 8), 0);
        due("no ROUND", x.steps(0, 0, -1), 0);
        due("no SWAP", x.bestSwap(0, 1, 0), -2);
        due("no LOSS", x.loss(0), 0);
        due("none is anybody's", x.linesOf(0, 0, 0), 0);
        due("TOGETHER", x.together(1, 0), -2);
        due("it is SHOWN", x.count(5), 1);
    }

    // ---- promise 11

    private static void swapIsRefused() {
        for (int no : beyond(0, 2)) {
            keeps("swap in BOOK " + no, Edges::town, TAPE, x -> of(x.swap(no, 0, 2, 0)), NO);
        }
        for (int no : beyond(0, 3)) {
            keeps("swap of LINE " + no, Edges::town, TAPE, x -> of(x.swap(1, no, 2, 0)), NO);
            keeps("swap with LINE " + no, Edges::town, TAPE, x -> of(x.swap(1, 2, no, 0)), NO);
            keeps("swap in COLUMN " + no, Edges::town, TAPE, x -> of(x.swap(1, 0, 2, no)), NO);
        }
        keeps("one twice", Edges::town, TAPE, x -> of(x.swap(1, 2, 2, 0)), NO);
        keeps("the first is CUT", Edges::town, TAPE, x -> of(x.swap(0, 3, 0, 0)), NO);
        keeps("the second is CUT", Edges::town, TAPE, x -> of(x.swap(0, 0, 3, 0)), NO);
        keeps("one twice that is CUT", Edges::town, TAPE, x -> of(x.swap(0, 3, 3, 0)), NO);
    }

    /** "they show the same there": in another COLUMN they may be unlike. */
    private static void swapOfLinesThatShowTheSame() {
        keeps("the same there", Edges::town, TAPE, x -> of(x.swap(0, 0, 2, 1)), NO);
        keeps("ALL of both", Edges::town, TAPE, x -> of(x.swap(0, 0, 2, 3)), NO);
        keeps("the same everywhere", Edges::town, TAPE, x -> of(x.swap(0, 0, 1, 0)), NO);
        TwoFit x = town();
        due("unlike there", x.swap(0, 0, 2, 0), true);
        due("the same there, still", x.swap(0, 0, 2, 1), false);
    }

    private static void swapIsBothWays() {
        TwoFit x = town();
        due("swap", x.swap(0, 2, 0, 0), true);
        due("LINE 0 shows", x.line(0, 0, 0), 17);
        due("LINE 2 shows", x.line(0, 2, 0), 16);
        due("LINE 1 stays", x.line(0, 1, 0), 16);
        for (int c = 1; c < 4; c++) {
            due("other COLUMNS stay", x.line(0, 0, c), town().line(0, 0, c));
            due("of both LINES", x.line(0, 2, c), town().line(0, 2, c));
        }
        due("whose it is stays", x.line(0, 0, 4), 0);
        due("whose the other is stays", x.line(0, 2, 4), 2);
        due("who FITS now", x.fits(0, 0, 0), bits(2, 3));
        due("and its GOSSIP is still of it", x.fits(0, 0, 1), 0);
        keeps("swapped and swapped back", Edges::town, TAPE,
            y -> 2 * of(y.swap(0, 2, 0, 0)) + of(y.swap(0, 0, 2, 0)), 3);
    }

    private static void swapWithAll() {
        TwoFit x = town();
        due("a NODE with ALL", x.swap(1, 0, 2, 0), true);
        due("ALL is shown here", x.line(1, 0, 0), 32);
        due("the NODE there", x.line(1, 2, 0), 20);
        due("a VALUE with a VALUE, not SHOWN", x.swap(2, 0, 1, 3), true);
        due("the VALUE here", x.line(2, 0, 3), 2);
        due("the VALUE there", x.line(2, 1, 3), 1);
        due("nobody FITS", x.fits(2, 0, 0), 0);
    }

    private static void swapOfTheGreatest() {
        TwoFit x = full();
        due("LINES 7 and 0, COLUMN 0", x.swap(3, 7, 0, 0), true);
        due("LINE 0 shows", x.line(3, 0, 0), 15);
        due("LINE 7 shows", x.line(3, 7, 0), 1);
        due("LINES 6 and 7, COLUMN 3", x.swap(3, 6, 7, 3), true);
        due("LINE 6 shows in COLUMN 3", x.line(3, 6, 3), 0);
        due("LINE 7 shows in COLUMN 3", x.line(3, 7, 3), 1);
        due("LINES 6 and 7, COLUMN 2, where they show the same", x.swap(3, 6, 7, 2), false);
    }

    // ---- promise 12

    private static void showIsRefused() {
        for (int no : beyond(0, 2)) {
            keeps("show BOOK " + no, Edges::town, TAPE, x -> of(x.show(no, true)), NO);
            keeps("show BOOK " + no + " no more", Edges::town, TAPE, x -> of(x.show(no, false)), NO);
        }
        for (int no : beyond(0, 3)) {
            keeps("show BOOK " + no + " of four no more", Edges::full, TAPE, x -> of(x.show(no, false)), NO);
        }
    }

    private static void showIsSo() {
        keeps("it is SHOWN", Edges::town, TAPE, x -> of(x.show(0, true)), NO);
        keeps("it is not SHOWN", Edges::town, TAPE, x -> of(x.show(2, false)), NO);
        keeps("shown no more, and again", Edges::town, TAPE, x -> 2 * of(x.show(0, false)) + of(x.show(0, true)), 3);
    }

    private static void showOfEach() {
        TwoFit x = full();
        int shown = 15;
        for (int b = 3; b >= 0; b--) {
            due("no more", x.show(b, false), true);
            shown &= ~(1 << b);
            due("SHOWN BOOKS", x.count(5), shown);
        }
        due("again", x.show(3, true), true);
        due("SHOWN is BOOK 3", x.count(5), 8);
    }

    // ---- promise 13

    private static void linkIsRefused() {
        for (int no : beyond(0, 2)) {
            keeps("link of BOOK " + no, Edges::town, TAPE, x -> x.link(no, 0, 1, 0), NONE);
            keeps("link with BOOK " + no, Edges::town, TAPE, x -> x.link(1, 0, no, 0), NONE);
        }
        for (int no : beyond(0, 3)) {
            keeps("link of LINE " + no, Edges::town, TAPE, x -> x.link(1, no, 2, 0), NONE);
            keeps("link with LINE " + no, Edges::town, TAPE, x -> x.link(2, 0, 1, no), NONE);
        }
        keeps("LINE 2 of two", Edges::town, TAPE, x -> x.link(0, 0, 2, 2), NONE);
    }

    private static void linksOfOneBook() {
        keeps("two LINES of one BOOK", Edges::town, TAPE, x -> x.link(0, 0, 0, 1), NONE);
        keeps("a LINE with itself", Edges::town, TAPE, x -> x.link(1, 0, 1, 0), NONE);
    }

    private static void fortyLinksAreThere() {
        TwoFit x = wide(4, 3);
        book(x, 1, 0, 0, 0, 3);
        for (int n = 1; n <= 40; n++) {
            due("LINK", x.link(n % 2, 0, 1 - n % 2, 0), n);
            due("LINKS", x.count(2), n);
        }
        due("a 41st", x.link(0, 1, 1, 0), NONE);
        due("LINKS at most", x.count(2), 40);
        keeps("a 41st of a full town", Edges::full, TAPE, y -> y.link(0, 5, 3, 5), NONE);
        keeps("a 41st of no such LINE", Edges::full, TAPE, y -> y.link(0, 8, 3, 5), NONE);
        keeps("a 41st told twice", Edges::full, TAPE, y -> y.link(0, 0, 2, 0), NONE);
    }

    /** The last LINK that there is room for leads on, too. */
    private static void cutOnesAreLinkedToo() {
        TwoFit x = town();
        due("a CUT one", x.link(0, 3, 1, 0), 3);
        due("with a CUT one", x.link(1, 0, 0, 3), 4);
        due("of a BOOK that is not SHOWN", x.link(2, 1, 0, 2), 5);
        due("it leads nowhere", x.fits(1, 0, 0), bits(0, 1, 2, 3, 4));
        TwoFit y = wide(4, 2);
        book(y, 0, 0, 0, 0, 3, 2);
        for (int n = 1; n < 40; n++) {
            y.link(0, 0, 1, 0);
        }
        due("not LINKED", y.fits(0, 1, 0), 15);
        due("the fortieth", y.link(0, 1, 1, 1), 40);
        due("it leads", y.fits(0, 1, 0), bits(2));
    }

    private static void linesToldTwiceAreLinkedToo() {
        TwoFit x = town();
        due("told twice", x.link(0, 0, 1, 1), 3);
        due("told the other way", x.link(1, 1, 0, 0), 4);
        due("who FITS stays", x.fits(1, 1, 0), bits(0, 1));
    }

    // ---- promise 15

    private static void lineOfEach() {
        int[] first = {16, 18, 0, 32, 0};
        int[] last = {15, 7, 3, 0, 15};
        for (int c = 0; c < 5; c++) {
            due("what the first LINE shows", town().line(0, 0, c), first[c]);
            due("what LINE 7 of BOOK 3 shows", full().line(3, 7, c), last[c]);
        }
        keeps("line", Edges::town, TAPE, y -> y.line(1, 3, 0), 20);
    }

    private static void lineIsRefused() {
        for (int no : beyond(0, 2)) {
            keeps("line of BOOK " + no, Edges::town, TAPE, x -> x.line(no, 0, 0), NONE);
        }
        for (int no : beyond(0, 3)) {
            keeps("LINE " + no, Edges::town, TAPE, x -> x.line(1, no, 0), NONE);
            keeps("whose LINE " + no + " is", Edges::town, TAPE, x -> x.line(1, no, 4), NONE);
        }
        for (int no : beyond(0, 4)) {
            keeps("line in COLUMN " + no, Edges::town, TAPE, x -> x.line(0, 0, no), NONE);
        }
    }

    /** "-2: it is CUT (but for c 4)"; NONE is told first. */
    private static void lineIsCut() {
        for (int c = 0; c < 4; c++) {
            int column = c;
            keeps("COLUMN " + c + " of a CUT one", Edges::town, TAPE, x -> x.line(0, 3, column), -2);
        }
        keeps("whose a CUT one is", Edges::town, TAPE, x -> x.line(0, 3, 4), 3);
        for (int no : beyond(0, 4)) {
            keeps("COLUMN " + no + " of a CUT one", Edges::town, TAPE, x -> x.line(0, 3, no), NONE);
        }
    }
}
