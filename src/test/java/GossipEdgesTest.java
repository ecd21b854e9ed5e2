/** The boundary cases of promise 14: GOSSIPS, FAULTS of their TEXTS, and what these hold for. */
public final class GossipEdgesTest extends Edges {
    private static final String DIGITS = "0123456789";
    private static final String FACTOR = "[abcdpwl" + DIGITS;
    private static final String PIECE = "!(" + FACTOR;
    private static final String MORE = "+-*/%";

    public static void main(String[] args) {
        gossipIsRefused();
        gossipOfACutLine();
        gossipHasNotSoMany();
        noneIsToldAheadOfAFault();
        aFaultEmptiesTheTape();
        theOneBeforeStays();
        inPlaceOfTheOneBefore();
        eightGossipsAreTold();
        gossipOfABookThatIsNotShown();
        bytesBehindTheTextAreNotRead();
        whatCanStandWhereAPieceBegins();
        whatCanStandWhereAFactorBegins();
        whatCanStandBehindAFactor();
        whatCanStandBehindAPiece();
        theEndCantStand();
        theEndCanStand();
        aSixthDigit();
        aSeventhThatIsOpen();
        sixAreOpen();
        theyAreOpenInOneAnother();
        aNotIsOpenTillItsPieceEnds();
        theFirstFaultFromTheLeft();
        aTextOfAHundredBytes();
        eachLetter();
        lettersOfTheGreatest();
        aWishAndAPersonAreAskedAsTheyAre();
        fromTheLeftOn();
        partsAndPieces();
        reckonedWithThirtyTwoBits();
        whatIsDividedByZeroIsRefused();
        refusedThroughAll();
        asMuchIsAskedAsMatters();
        refusedForSomeOnly();
        end();
    }

    /** Answers of GOSSIPS, each told in a town of its own. */
    private static int told(String text) {
        return tell(wide(2, 1), 0, 0, 0, text);
    }

    /** PEOPLE 0 to 3, of VALUES p, 4 + p, 8 + p, 15 - p and WISHES 0 16 3 1; whom a TEXT of LINE 1 holds for. */
    private static int who(String text) {
        TwoFit x = new TwoFit();
        int[] wishes = {0, 16, 3, 1};
        for (int p = 0; p < 4; p++) {
            x.person(p, 4 + p, 8 + p, 15 - p);
            x.wish(p, wishes[p]);
        }
        book(x, 1, 1, 1, 1, 0, 1);
        due(text + " is told", tell(x, 0, 0, 1, text), 1);
        return x.fits(0, 1, 1);
    }

    private static void holds(String text, int... whom) {
        due("whom " + text + " holds for", who(text), bits(whom));
    }

    private static void holdsForAll(String... texts) {
        for (String text : texts) {
            holds(text, 0, 1, 2, 3);
        }
    }

    private static void holdsForNone(String... texts) {
        for (String text : texts) {
            holds(text);
        }
    }

    private static String times(String sign, int n) {
        return sign.repeat(n);
    }

    // ---- what is refused

    private static void gossipIsRefused() {
        int[] tape = bytes("a=1");
        for (int no : beyond(0, 7)) {
            keeps("GOSSIP " + no, Edges::town, tape, x -> x.gossip(no, 0, 0, 3), NONE);
        }
        for (int no : beyond(0, 2)) {
            keeps("gossip of BOOK " + no, Edges::town, tape, x -> x.gossip(0, no, 0, 3), NONE);
        }
        for (int no : beyond(0, 3)) {
            keeps("gossip of LINE " + no, Edges::town, tape, x -> x.gossip(0, 1, no, 3), NONE);
        }
        keeps("gossip of LINE 2 of two", Edges::town, tape, x -> x.gossip(0, 2, 2, 3), NONE);
        for (int no : beyond(1, 100)) {
            keeps("gossip of " + no + " bytes", Edges::town, tape, x -> x.gossip(0, 0, 0, no), NONE);
        }
        int[] full = bytes("a=0" + times("+0", 98));
        keeps("gossip of 101 bytes that are there", Edges::town, full, x -> x.gossip(0, 0, 0, 101), NONE);
    }

    private static void gossipOfACutLine() {
        keeps("gossip of a CUT LINE", Edges::town, bytes("a=1"), x -> x.gossip(0, 0, 3, 3), NONE);
        TwoFit x = wide(4, 2);
        tell(x, 3, 0, 1, "p=1");
        x.cut(0, 1);
        due("that it was told of it stays", x.count(3), 8);
        due("in place of that", tell(x, 3, 0, 0, "p=1"), 1);
        due("it says something now", x.fits(0, 0, 8), bits(1));
    }

    /** "it has not so many (the tape stays)". */
    private static void gossipHasNotSoMany() {
        keeps("1 of none", Edges::town, EMPTY, x -> x.gossip(0, 0, 0, 1), NONE);
        keeps("21 of 20", Edges::town, bytes("a=1"), x -> x.gossip(0, 0, 0, 21), NONE);
        keeps("81 of 80", Edges::town, bytes("a=0" + times("+0", 38)), x -> x.gossip(0, 0, 0, 81), NONE);
        keeps("100 of 80", Edges::town, bytes("a=0" + times("+0", 38)), x -> x.gossip(0, 0, 0, 100), NONE);
        TwoFit x = wide(2, 1);
        feed(x, bytes("a=0" + times("+0", 8) + "+"));
        due("20 of 20", x.gossip(0, 0, 0, 20), -1020);
        feed(x, bytes("a=10" + times("+0", 8)));
        due("20 of 20 that are right", x.gossip(0, 0, 0, 20), 1);
    }

    private static void noneIsToldAheadOfAFault() {
        int[] fault = bytes("?");
        keeps("GOSSIP 8 and a FAULT", Edges::town, fault, x -> x.gossip(8, 0, 0, 3), NONE);
        keeps("no such BOOK and a FAULT", Edges::town, fault, x -> x.gossip(0, 3, 0, 3), NONE);
        keeps("no such LINE and a FAULT", Edges::town, fault, x -> x.gossip(0, 0, 4, 3), NONE);
        keeps("a CUT LINE and a FAULT", Edges::town, fault, x -> x.gossip(0, 0, 3, 3), NONE);
        keeps("not so many and a FAULT", Edges::town, fault, x -> x.gossip(0, 0, 0, 21), NONE);
        keeps("of 101 and a FAULT", Edges::town, fault, x -> x.gossip(0, 0, 0, 101), NONE);
    }

    private static void aFaultEmptiesTheTape() {
        empties("a FAULT at the first byte", Edges::town, bytes("?=1"), x -> x.gossip(0, 0, 0, 3), -1000);
        empties("a FAULT at the end", Edges::town, bytes("a="), x -> x.gossip(5, 1, 0, 2), -1002);
        empties("a sixth digit", Edges::town, bytes("a=123456"), x -> x.gossip(0, 0, 0, 8), -2007);
        empties("a seventh", Edges::town, bytes("!!!!!!!a=1"), x -> x.gossip(0, 0, 0, 10), -5006);
        empties("a FAULT of one that is not told", Edges::town, bytes("?"), x -> x.gossip(7, 1, 1, 1), -1000);
        int[] more = bytes("a=" + times("1+", 40));
        empties("a FAULT on a longer tape", Edges::town, more, x -> x.gossip(0, 0, 0, 2), -1002);
        empties("the same again", Edges::town, bytes("a<1"), x -> x.gossip(0, 0, 0, 3), 1);
    }

    /** "a FAULT: .. (the one before stays)": its TEXT and of which LINE it is. */
    private static void theOneBeforeStays() {
        TwoFit x = wide(4, 2);
        tell(x, 2, 0, 0, "p=1");
        due("a FAULT at its end", tell(x, 2, 0, 1, "p=2|"), -1004);
        due("a FAULT at once", tell(x, 2, 0, 0, "x"), -1000);
        due("it is told still", x.count(3), 4);
        due("it is of its LINE", x.fits(0, 0, 4), bits(1));
        due("not of the other one", x.fits(0, 1, 4), 15);
        x.person(9, 0, 0, 0);
        x.wish(0, 1);
        due("also when all is asked anew", x.fits(0, 0, 4), bits(1));
        due("a FAULT of another one", tell(x, 3, 0, 1, "p=2&"), -1004);
        due("which is not told", x.count(3), 4);
        due("and says nothing", x.fits(0, 1, 8), 31);
        due("a right one after it", tell(x, 3, 0, 1, "p=2"), 1);
        due("says something", x.fits(0, 1, 8), bits(2));
    }

    private static void inPlaceOfTheOneBefore() {
        TwoFit x = wide(4, 2);
        book(x, 1, 0, 0, 0, 3);
        tell(x, 2, 0, 0, "p=1&p<9&p<9");
        due("of the same LINE", tell(x, 2, 0, 0, "p=2"), 1);
        due("the new TEXT", x.fits(0, 0, 4), bits(2));
        due("of another LINE", tell(x, 2, 0, 1, "p=3"), 1);
        due("none of the first LINE", x.fits(0, 0, 4), 15);
        due("of the other LINE", x.fits(0, 1, 4), bits(3));
        due("of another BOOK", tell(x, 2, 1, 0, "p=0"), 1);
        due("none of the second LINE", x.fits(0, 1, 4), 15);
        due("of the other BOOK", x.fits(1, 0, 4), bits(0));
        due("it is one", x.count(3), 4);
        for (int n = 0; n < 5; n++) {
            due("again and again", tell(x, 2, 0, 0, "p=" + n % 4), 1);
            due("the last one", x.fits(0, 0, 4), bits(n % 4));
        }
    }

    private static void eightGossipsAreTold() {
        TwoFit x = wide(9, 1);
        int said = 0;
        for (int g = 7; g >= 0; g--) {
            due("GOSSIP " + g, tell(x, g, 0, 0, "!p=" + g), 1);
            said |= 1 << g;
            due("told ones", x.count(3), said);
            due("who FITS by it", x.fits(0, 0, 1 << g), 511 & ~(1 << g));
        }
        due("who FITS by all", x.fits(0, 0, 255), bits(8));
        due("who FITS by seven", x.fits(0, 0, 127), bits(7, 8));
        due("no ninth", tell(x, 8, 0, 0, "p=8"), NONE);
    }

    private static void gossipOfABookThatIsNotShown() {
        TwoFit x = wide(4, 1);
        x.show(0, false);
        due("gossip", tell(x, 0, 0, 0, "p=3"), 1);
        due("who FITS", x.fits(0, 0, 1), bits(3));
    }

    private static void bytesBehindTheTextAreNotRead() {
        TwoFit x = wide(4, 1);
        feed(x, bytes("p=3&p=9"));
        due("three bytes", x.gossip(0, 0, 0, 3), 1);
        due("who FITS", x.fits(0, 0, 1), bits(3));
        due("all of the tape is empty then", x.count(4), 0);
        feed(x, bytes("p=12345678"));
        due("five digits of eight", x.gossip(0, 0, 0, 7), 1);
        due("nobody is 12345", x.fits(0, 0, 1), 0);
    }

    // ---- FAULT 1: what can't stand there, the end, too

    /** Of all bytes only some can stand behind a beginning; of those the FAULT, if any, is farther on. */
    private static void canStand(String beginning, String signs) {
        for (int sign = 0; sign < 256; sign++) {
            boolean can = signs.indexOf((char) sign) >= 0;
            int answer = told(beginning + (char) sign);
            due("sign " + sign + " behind " + beginning, answer == -1000 - beginning.length(), !can);
        }
    }

    private static void whatCanStandWhereAPieceBegins() {
        for (String beginning : new String[] {"", "!", "(", "a=1|", "a=1&", "(a=1|", "(a=1)&", "!a=1|", "!(", "!!", "(("}) {
            canStand(beginning, PIECE);
        }
    }

    private static void whatCanStandWhereAFactorBegins() {
        for (String beginning : new String[] {"a<", "a>", "a=", "a+", "a-", "a*", "a/", "a%", "[", "[[", "a=1+", "a=1%",
                "a=[", "[a+", "[a*", "!a=", "(a=", "((((((a=", "!!!!!!1-"}) {
            canStand(beginning, FACTOR);
        }
    }

    private static void whatCanStandBehindAFactor() {
        canStand("a", MORE + "<>=");
        canStand("p", MORE + "<>=");
        canStand("[w]", MORE + "<>=");
        canStand("(l", MORE + "<>=");
        canStand("!d", MORE + "<>=");
        canStand("1", MORE + "<>=" + DIGITS);
        canStand("1234", MORE + "<>=" + DIGITS);
        canStand("a+b", MORE + "<>=");
        canStand("[a", MORE + "]");
        canStand("[[a", MORE + "]");
        canStand("[[a]", MORE + "]");
        canStand("[1", MORE + "]" + DIGITS);
        canStand("a=[b", MORE + "]");
        canStand("12345", MORE + "<>=" + DIGITS);
        due("digits behind five are FAULT 2", told("123456"), -2005);
    }

    private static void whatCanStandBehindAPiece() {
        canStand("a=b", MORE + "|&");
        canStand("a<b", MORE + "|&");
        canStand("a>[b]", MORE + "|&");
        canStand("a=1", MORE + "|&" + DIGITS);
        canStand("a=b|c=d", MORE + "|&");
        canStand("!a=b", MORE + "|&");
        canStand("(a=b", MORE + "|&)");
        canStand("(a=b|c=d&p=p", MORE + "|&)");
        canStand("!(a=b", MORE + "|&)");
        canStand("(!a=b", MORE + "|&)");
        canStand("(a=b)", "|&");
        canStand("!(a=b)", "|&");
        canStand("a=b&(a=b)", "|&");
        canStand("((a=b)", "|&)");
    }

    /** "(the end, too)": its place is behind the last byte. */
    private static void theEndCantStand() {
        String[] texts = {"a", "1", "!", "(", "[", "a=", "a<", "a>", "a+", "a=1+", "a=1|", "a=1&", "[a", "[a]", "(a=1", "!a",
            "((a=1)", "a=[1", "a=[[1]", "!(a=1", "!!!!!!", "((((((", "[[[[[[", "12345", "a=1&!", "a=1|(", "(a=1)&", "(a=1)|"};
        for (String text : texts) {
            due("the end of " + text, told(text), -1000 - text.length());
        }
    }

    private static void theEndCanStand() {
        String[] texts = {"a=1", "a<1", "a>1", "a=1|b=2", "a=1&b=2", "!a=1", "(a=1)", "((a=1))", "[a]=[1]", "a=1+2", "a=1-2*3/4%5",
            "(a=1)|(a=1)", "(a=1)&!(a=1)", "a+b+c+d+p+w+l=0", "00000=99999", "1*[2+[3-[4/[5%6]]]]=7", "(a=1|b=2&(c=3|!d=4))"};
        for (String text : texts) {
            due(text, told(text), 1);
        }
    }

    // ---- FAULT 2: a sixth digit, at it

    private static void aSixthDigit() {
        String[] before = {"", "!", "(", "[", "a=", "a<1+", "a=[", "a=12345*", "a=1&", "a=1|("};
        for (String beginning : before) {
            due("six behind " + beginning, told(beginning + "123456"), -2005 - beginning.length());
            due("seven behind " + beginning, told(beginning + "0000000"), -2005 - beginning.length());
            due("five behind " + beginning, told(beginning + "99999"), told(beginning + "9") == 1 ? 1 : -1005 - beginning.length());
        }
        due("six and more", told("a=999999999=1"), -2007);
        for (char digit = '0'; digit <= '9'; digit++) {
            due("the sixth is " + digit, told("a=12345" + digit), -2007);
        }
        holdsForAll("99999=99999", "00000=0", "00001=1", "99999>99998", "99999-99998=1");
    }

    // ---- FAULT 5: a seventh of ( [ ! that are open in one another, at it

    /** Beginnings of n signs: any of ( and !, then only [, as the kinds and the number of [ tell. */
    private static String opened(int n, int kinds, int last) {
        StringBuilder text = new StringBuilder();
        for (int at = 0; at < n - last; at++) {
            text.append((kinds >> at & 1) == 0 ? '(' : '!');
        }
        return text.append(times("[", last)).toString();
    }

    private static void aSeventhThatIsOpen() {
        for (int last = 0; last <= 7; last++) {
            for (int kinds = 0; kinds < 1 << 7 - last; kinds++) {
                due(opened(7, kinds, last), told(opened(7, kinds, last)), -5006);
                due("and more", told(opened(7, kinds, last) + "((a=1"), -5006);
            }
        }
    }

    private static void sixAreOpen() {
        for (int n = 1; n <= 6; n++) {
            for (int last = 0; last <= n; last++) {
                for (int kinds = 0; kinds < 1 << n - last; kinds++) {
                    String closed = times("]", last) + "=1" + times(")", n - last - Integer.bitCount(kinds));
                    due("closed again", told(opened(n, kinds, last) + "a" + closed), 1);
                }
            }
        }
    }

    /** What is closed is open no more: only those in one another count. */
    private static void theyAreOpenInOneAnother() {
        String six = "((((((a=1))))))";
        due("six and six", told(six + "|" + six), 1);
        due("six and six and six", told(six + "&" + six + "|" + six), 1);
        due("six and seven", told(six + "|(" + six), -5022);
        String brackets = "[[[[[[a]]]]]]";
        due("six and six of [", told(brackets + "+" + brackets + "=" + brackets + "*" + brackets), 1);
        due("six and seven of [", told(brackets + "=[" + brackets), -5020);
        due("a seventh in the second E", told("((((((a=[1]))))))"), -5008);
        due("a sixth in the second E", told("(((((a=[1])))))"), 1);
        due("a seventh behind an operator", told("!!!!!!a+b*[1]=2"), -5010);
        due("a seventh behind a sixth that is closed", told("(((((a=1&(b=2)|(c=3)&(d=4))))))"), 1);
        due("a seventh in a sixth", told("(((((a=1&(b=2&(c=3)))))))"), -5014);
    }

    /** "(a ! is open till its PIECE ends)". */
    private static void aNotIsOpenTillItsPieceEnds() {
        String six = "!!!!!!a=1";
        due("six and six of !", told(six + "&" + six + "|" + six), 1);
        due("a seventh of another PIECE", told("!!!!!!a=1&!!!!!!!a=1"), -5016);
        due("open in its PIECE's first E", told("!!!!!![a]=1"), -5006);
        due("open in its PIECE's second E", told("!!!!!!a=[1]"), -5008);
        due("open in its PIECE of ( )", told("!!!!!!(a=1)"), -5006);
        due("five and a ( )", told("!!!!!(a=1)&!!!!!(a=1)"), 1);
        due("in ( ) with a PIECE ahead of it", told("!(a=1&!(a=1&!(a=1&a=1)))"), 1);
        due("with a seventh in it", told("!(a=1&!(a=1&!(a=1&!a=1)))"), -5018);
        due("it ends at &", told("(!a=1&!a=1&!a=1&!a=1&!a=1&!a=1&!a=1)"), 1);
        due("it ends at |", told("(((((!a=1|!a=1|!a=1)))))"), 1);
        due("it ends at )", told("(!(!(!a=1)))&!!!!!!a=1"), 1);
        due("it does not end at +", told("!!!!!!a+[1]=1"), -5008);
    }

    // ---- "the first from the left"

    private static void theFirstFaultFromTheLeft() {
        due("1 ahead of 5", told("a==((((((("), -1002);
        due("1 ahead of 2", told("a)123456"), -1001);
        due("2 ahead of 1", told("a=123456?"), -2007);
        due("2 ahead of 5", told("a=123456&((((((("), -2007);
        due("5 ahead of 1", told("(((((((?"), -5006);
        due("5 ahead of 2", told("[[[[[[[123456"), -5006);
        due("1 ahead of another 1", told("??"), -1000);
        due("1 at the place of a seventh", told("((((((a("), -1007);
        due("1 where a ( can't stand, though it would be a seventh", told("[[[[[[("), -1006);
        due("1 where a ! can't stand, though it would be a seventh", told("[[[[[[!"), -1006);
        due("1 where a ( can't stand behind a comparison", told("!!!!!!a=("), -1008);
        due("1 where a [ can't stand", told("((((((a["), -1007);
        due("not closed, where it ends", told("(((a=1"), -1006);
        due("closed once too often", told("(a=1))"), -1005);
        due("closed otherwise", told("[a)=1"), -1002);
    }

    // ---- a TEXT of at most 100 bytes

    private static void aTextOfAHundredBytes() {
        String ninety = "p=1" + times("+0", 43) + "+";
        due("so long", ninety.length(), 90);
        String hundred = ninety + "0+0+0+0+00";
        TwoFit x = wide(4, 1);
        due("100 bytes", tell(x, 0, 0, 0, hundred), 1);
        due("are read to the end", x.fits(0, 0, 1), bits(1));
        due("100 bytes of another end", tell(x, 0, 0, 0, ninety + "0+0+0+0+02"), 1);
        due("who FITS by its end", x.fits(0, 0, 1), bits(3));
        due("99 bytes", told(hundred.substring(0, 99)), 1);
        due("101 bytes", told(hundred + "0"), NONE);
        due("what can't stand at the last byte", told(hundred.substring(0, 99) + "?"), -1099);
        due("what can't stand behind the last byte", told(hundred.substring(0, 99) + "+"), -1100);
        due("a sixth digit at the last byte", told(ninety + "0+0+123456"), -2099);
        due("five digits at the end", told(ninety + "0+0+012345"), -2099);
        due("five digits", told(ninety + "0+00+12345"), 1);
        due("a seventh at the last byte", told(ninety + "0-[[[[[[["), -5098);
        due("a seventh at the very last byte", told(ninety + "00-[[[[[[["), -5099);
        due("six open at the end", told(ninety + "0+0-[[[[[["), -1100);
        due("of one byte", told("p"), -1001);
        due("of one byte that can't stand", told("="), -1000);
        due("many PIECES", told("p=1" + times("|p=1", 24)), 1);
        due("and they all count", who("p=1" + times("&p=1", 23) + "|p=3"), bits(1, 3));
        due("many !", told("!!!!!!p=1" + times("|!!!!!!p=1", 9)), 1);
    }

    // ---- what a TEXT holds for

    private static void eachLetter() {
        holds("a=2", 2);
        holds("b=6", 2);
        holds("c=10", 2);
        holds("d=13", 2);
        holds("p=2", 2);
        holds("w=3", 2);
        holdsForAll("l=1");
        holdsForNone("l=0", "l=2");
        holds("a<1", 0);
        holds("a>2", 3);
        holds("a<0");
        holds("a<a+1", 0, 1, 2, 3);
        holds("a>a");
    }

    private static void lettersOfTheGreatest() {
        TwoFit x = new TwoFit();
        for (int p = 0; p < 16; p++) {
            x.person(15, 15, 15, 15);
        }
        x.wish(15, 16);
        book(x, 0, 0, 0, 0, 0, 1, 2, 3, 4, 5, 6, 15);
        due("all at their greatest", tell(x, 7, 0, 7, "a=15&b=15&c=15&d=15&p=15&w=16&l=7"), 1);
        due("who FITS", x.fits(0, 7, 128), 1 << 15);
        due("all of LINE 0", tell(x, 7, 0, 0, "a=15&l=0&w=0"), 1);
        due("who FITS LINE 0", x.fits(0, 0, 128), 65535 >> 1);
    }

    /** A TEXT is asked of PEOPLE and WISHES as they are when it is asked. */
    private static void aWishAndAPersonAreAskedAsTheyAre() {
        TwoFit x = wide(2, 2);
        tell(x, 0, 0, 0, "w>0");
        due("nobody wishes", x.fits(0, 0, 1), 0);
        x.wish(1, 16);
        due("one does", x.fits(0, 0, 1), bits(1));
        x.wish(1, 0);
        due("and no more", x.fits(0, 0, 1), 0);
        tell(x, 1, 0, 1, "1/[w-1]=1");
        due("who wishes 0", x.fits(0, 1, 2), 0);
        x.wish(0, 2);
        due("who wishes 2", x.fits(0, 1, 2), bits(0));
        x.wish(0, 1);
        due("who wishes 1, divided by 0", x.fits(0, 1, 2), 0);
        tell(x, 2, 0, 0, "a=5&p=2");
        due("nobody yet", x.fits(0, 0, 4), 0);
        x.person(5, 0, 0, 0);
        due("who comes later", x.fits(0, 0, 4), bits(2));
    }

    /** "from the left on": + and - alike, * / % alike and closer than these. */
    private static void fromTheLeftOn() {
        holdsForAll("9-3-2=4", "9-[3-2]=8", "9-3+2=8", "64/4/2=8", "64/[4/2]=32", "64/4*2=32", "17%10%4=3", "17%[10%4]=1",
            "2*17%5=4", "2*[17%5]=4", "7*3%4=1", "7*[3%4]=21", "2+3*4=14", "[2+3]*4=20", "2*3+4=10", "20-6/3=18", "5%3+1=3",
            "1+2<2+2", "4>1+2", "3=1+2", "2-3<0", "[[[5]]]=5");
    }

    /** One PART must hold, in it all PIECES. */
    private static void partsAndPieces() {
        holds("p=0|p=2", 0, 2);
        holds("p>0&p<3", 1, 2);
        holds("p=0|p>1&p<3", 0, 2);
        holds("p>1&p<3|p=0", 0, 2);
        holds("(p=0|p>1)&p<3", 0, 2);
        holds("p<3&(p=0|p>1)", 0, 2);
        holds("!p=0&p<2", 1);
        holds("!(p=0&p<2)", 1, 2, 3);
        holds("!p=0|p=0", 0, 1, 2, 3);
        holds("!(p=0|p=1)", 2, 3);
        holds("!!p=3", 3);
        holds("!!!p=3", 0, 1, 2);
        holds("!!!!!!p=3", 3);
        holds("(((p=3)))", 3);
        holds("p=0|p=1|p=2|p=3", 0, 1, 2, 3);
        holds("p>0&p>1&p>2", 3);
        holds("p>5|p=2&p=2|p>7", 2);
    }

    /** "All is reckoned with 32 bits, as the machine does". */
    private static void reckonedWithThirtyTwoBits() {
        holdsForAll("65536*65536=0", "46340*46340>0", "46341*46341<0", "32768*65536<0", "32768*65535+32767>0", "32768*65535+32768<0",
            "32768*65536-1>0", "32768*65536+32768*65536=0", "0-32768*65536<0", "32768*65536=0-32768*65536",
            "32768*65536/[0-1]=32768*65536", "32768*65536%[0-1]=0", "32768*65536*[0-1]<0", "99999*99999=14098*[50000+50000]+65409",
            "32768*65536<32768*65536-1");
    }

    private static void whatIsDividedByZeroIsRefused() {
        holdsForNone("1/0=0", "1%0=0", "0/0=0", "0%0=0", "1/[1-1]=0", "1%[2*0]=0", "32768*65536/0<0", "1/0*0=0", "0*[1/0]=0",
            "0=1/0", "0>1%0", "1<2+1/0", "5/[1/2]=0", "1/[65536*65536]=0", "[1/0]=[1/0]");
        holdsForAll("0/1=0", "0%1=0", "0/[0-1]=0", "1/2=0", "1%2=1", "[0-7]/2=0-3", "[0-7]%2=0-1", "7/[0-2]=0-3", "7%[0-2]=1",
            "99999/99999=1", "99999%99999=0");
    }

    /** "then the C as a whole does not hold (through any !, ( ) and |)". */
    private static void refusedThroughAll() {
        holdsForNone("!1/0=0", "!!1/0=0", "!(1/0=0)", "(1/0=0)", "!(!1/0=0)", "1/0=0|1=1", "(1/0=0)|1=1", "!(1/0=0)|1=1", "!1/0=0|1=1",
            "1=0|1/0=0|1=1", "1=1&1/0=0|1=1", "(1=1&1/0=0)|1=1", "((1%0=0|1=1)|1=1)|1=1", "!(!(!(1/0=1)))|1=1", "1/0=0&1=1",
            "1/0=0&1=0", "!(1/0=0&1=0)", "1/0=0&1=0|1=1", "(1/0=0|1=1)&1=1", "1=1&(1=0|1/0=0)|1=1");
    }

    /** "Of a C as much is asked, from the left, as matters." */
    private static void asMuchIsAskedAsMatters() {
        holdsForAll("1=1|1/0=0", "1=0&1/0=0|1=1", "(1=1|1/0=0)", "!(1=0&1/0=0)", "1=1|1=0|1/0=0", "1=0|1=1|1%0=0", "1=1|1/0=0&1/0=0",
            "(1=1|1/0=0)&1=1", "(1=0&1/0=0)|1=1", "1=1|(1/0=0)", "1=1|!1/0=0", "!(1=1&1=0&1/0=0)", "(1=1|1/0=0)&(1=0&1/0=0|1=1)",
            "1=1|(1=1&(1=1&(1/0=0)))", "!1=0|1/0=0", "1=1&1=1|1/0=0");
        holdsForNone("1=0&1/0=0", "1=0|1=0&1/0=0", "!1=1&1/0=0", "!(1=1|1/0=0)", "1=1&1/0=0", "1=0|1/0=0", "1=1&(1=1|1/0=0)&1=0");
    }

    private static void refusedForSomeOnly() {
        holds("6/p=3", 2);
        holds("!6/p=3", 1, 3);
        holds("p=0|6/p=3", 0, 2);
        holds("6/p=3|p=0", 2);
        holds("p>0&6/p=3", 2);
        holds("!(p>0&6/p=3)", 0, 1, 3);
        holds("6%[p-1]=0", 0, 2, 3);
        holds("!6%[p-1]=0");
        holds("1/[p-3]=0|p=3|p<3", 0, 1, 2);
    }
}
