/** For each promise of the document: ordinary inputs, the edges that it names, and refused calls. */
public final class PromisesTest {
    private static int wrong = 0;
    private static int looked = 0;
    private static TwoFit x;

    private static void due(String what, long got, long want) {
        looked++;
        if (got != want) {
            wrong++;
            System.out.println(what + " answered " + got + ", due is " + want);
        }
    }

    private static void due(String what, boolean got, boolean want) {
        due(what, got ? 1 : 0, want ? 1 : 0);
    }

    public static void main(String[] args) {
        aNewObject();
        upper();
        weight();
        person();
        wish();
        feed();
        blurred();
        size();
        book();
        cut();
        swap();
        show();
        link();
        gossipFaults();
        gossipTexts();
        gossipRefused();
        line();
        fits();
        fitsLinked();
        givings();
        odds();
        mustBe();
        giving();
        tooFew();
        steps();
        safe();
        fewest();
        questions();
        blurring();
        bestSwap();
        together();
        loss();
        linesOf();
        check();
        count();
        System.out.println(looked + " answers looked at, " + wrong + " wrong");
        if (wrong != 0) {
            System.exit(1);
        }
    }

    // ---- ways to say things shortly

    private static void feedBytes(int... bytes) {
        for (int from = 0; from < bytes.length; from += 20) {
            int[] f = new int[5];
            for (int i = 0; i < 20; i++) {
                f[i / 4] = f[i / 4] << 8 | (from + i < bytes.length ? bytes[from + i] : 0);
            }
            x.feed(f[0], f[1], f[2], f[3], f[4]);
        }
    }

    private static int tell(int g, int b, int i, String text) {
        int[] bytes = new int[text.length()];
        for (int at = 0; at < bytes.length; at++) {
            bytes[at] = text.charAt(at);
        }
        feedBytes(bytes);
        return x.gossip(g, b, i, bytes.length);
    }

    private static int bookOf(int l0, int l1, int l2, int l3, int... people) {
        feedBytes(people);
        return x.book(people.length, l0, l1, l2, l3);
    }

    private static int bits(int... some) {
        int set = 0;
        for (int n : some) {
            set |= 1 << n;
        }
        return set;
    }

    /** COLUMN 0: 0 1 below 16, 2 3 below 17, both below 20. PEOPLE 0 to 3 have 0 to 3 there, else 0. */
    private static void town() {
        x = new TwoFit();
        x.upper(0, 0, 16);
        x.upper(0, 1, 16);
        x.upper(0, 2, 17);
        x.upper(0, 3, 17);
        x.upper(0, 16, 20);
        x.upper(0, 17, 20);
        for (int p = 0; p < 4; p++) {
            x.person(p, 0, 0, 0);
        }
    }

    /** A BOOK of all PEOPLE of the town, each LINE of which all four FIT; GOSSIPS tell who is left. */
    private static void blurredTown(int... people) {
        town();
        bookOf(4, 0, 0, 0, people);
    }

    // ---- the promises

    private static void aNewObject() {
        x = new TwoFit();
        due("NONE", TwoFit.NONE, -1);
        for (int what = 0; what <= 5; what++) {
            due("count " + what + " of a new object", x.count(what), 0);
        }
        for (int c = 0; c < 4; c++) {
            for (int node = 0; node < 32; node++) {
                due("size at first", x.size(c, node), node < 16 ? 1 : 0);
            }
            due("blurred at first", x.blurred(c, 7, 1), 32);
            due("weight at first", x.count(20 + c), 1);
        }
        due("no person", x.count(30), -1);
        due("no book", x.count(10), -1);
    }

    private static void upper() {
        x = new TwoFit();
        due("upper", x.upper(0, 0, 16), true);
        due("upper of a node above", x.upper(3, 30, 31), true);
        due("upper of 31", x.upper(0, 31, 31), false);
        due("no upper of 31", x.upper(0, 31, -1), true);
        due("column 4", x.upper(4, 0, 16), false);
        due("column -1", x.upper(-1, 0, 16), false);
        due("node 32", x.upper(0, 32, -1), false);
        due("node -1", x.upper(0, -1, 16), false);
        due("up 15", x.upper(0, 0, 15), false);
        due("up 32", x.upper(0, 0, 32), false);
        due("up -2", x.upper(0, 0, -2), false);
        due("up itself", x.upper(0, 20, 20), false);
        due("up lower", x.upper(0, 20, 19), false);
        due("refused ones change nothing", x.blurred(0, 0, 1), 16);
        due("another upper", x.upper(0, 0, 31), true);
        due("is the one now", x.blurred(0, 0, 1), 31);
        due("the one before has it no more", x.size(0, 16), 0);
        due("none", x.upper(0, 0, -1), true);
        due("none now", x.blurred(0, 0, 1), 32);
        due("other columns stay", x.blurred(3, 0, 1), 32);
    }

    private static void weight() {
        x = new TwoFit();
        due("weight 0", x.weight(0, 0), true);
        due("weight 99", x.weight(3, 99), true);
        due("weight 100", x.weight(3, 100), false);
        due("weight -1", x.weight(3, -1), false);
        due("column 4", x.weight(4, 5), false);
        due("column -1", x.weight(-1, 5), false);
        due("of 0", x.count(20), 0);
        due("of 1", x.count(21), 1);
        due("of 3", x.count(23), 99);
    }

    private static void person() {
        x = new TwoFit();
        due("value 16", x.person(16, 0, 0, 0), -1);
        due("value -1", x.person(0, -1, 0, 0), -1);
        due("value 16 third", x.person(0, 0, 16, 0), -1);
        due("value 16 last", x.person(0, 0, 0, 16), -1);
        for (int p = 0; p < 16; p++) {
            due("person", x.person(p, 15 - p, p / 2, 15), p);
        }
        due("a seventeenth", x.person(0, 0, 0, 0), -1);
        due("people", x.count(0), 16);
        bookOf(0, 0, 0, 0, 9);
        due("value 0 of 9", x.line(0, 0, 0), 9);
        due("value 1 of 9", x.line(0, 0, 1), 6);
        due("value 2 of 9", x.line(0, 0, 2), 4);
        due("value 3 of 9", x.line(0, 0, 3), 15);
    }

    private static void wish() {
        town();
        due("wish", x.wish(3, 16), true);
        due("wish 17", x.wish(3, 17), false);
        due("wish -1", x.wish(3, -1), false);
        due("person 4", x.wish(4, 1), false);
        due("person -1", x.wish(-1, 1), false);
        due("wish of 3", x.count(33), 16);
        due("wish of 2", x.count(32), 0);
        due("wish again", x.wish(3, 0), true);
        due("wish of 3 now", x.count(33), 0);
    }

    private static void feed() {
        town();
        for (int n = 20; n <= 200; n += 20) {
            due("feed", x.feed(n == 20 ? 0x00010203 : 0, 0, 0, 0, 0), n);
        }
        due("more than 200", x.feed(1, 1, 1, 1, 1), -1);
        due("200 stay", x.count(4), 200);
        due("book", x.book(4, 0, 0, 0, 0), 0);
        for (int i = 0; i < 4; i++) {
            due("the highest byte first", x.line(0, i, 4), i);
        }
        due("empty then", x.count(4), 0);
        x.feed(1, -1, 0x7fffffff, 0, 0);
        due("numbers as they were told", x.check(0, 0, 1), 0);
    }

    private static void blurred() {
        town();
        int[] rows = {0, 16, 20, 32, 32};
        for (int n = 0; n <= 4; n++) {
            due("0 blurred by " + n, x.blurred(0, 0, n), rows[n]);
            due("0 in column 1 blurred by " + n, x.blurred(1, 0, n), n == 0 ? 0 : 32);
        }
        x.upper(0, 20, 25);
        x.upper(0, 25, 31);
        due("four steps", x.blurred(0, 3, 4), 31);
        due("level 5", x.blurred(0, 0, 5), -1);
        due("level -1", x.blurred(0, 0, -1), -1);
        due("value 16", x.blurred(0, 16, 0), -1);
        due("value -1", x.blurred(0, -1, 0), -1);
        due("column 4", x.blurred(4, 0, 0), -1);
        due("column -1", x.blurred(-1, 0, 0), -1);
    }

    private static void size() {
        town();
        due("a value", x.size(0, 15), 1);
        due("of two", x.size(0, 17), 2);
        due("of four", x.size(0, 20), 4);
        due("of none", x.size(0, 18), 0);
        due("of all", x.size(0, 32), 16);
        due("node 33", x.size(0, 33), -1);
        due("node -1", x.size(0, -1), -1);
        due("column 4", x.size(4, 0), -1);
        due("column -1", x.size(-1, 0), -1);
        x.upper(0, 17, 21);
        due("when the tree changes", x.size(0, 20), 2);
        for (int value = 0; value < 16; value++) {
            x.upper(1, value, 16);
        }
        for (int node = 16; node < 31; node++) {
            x.upper(1, node, node + 1);
        }
        due("at the top of the longest way", x.size(1, 31), 16);
    }

    private static void book() {
        town();
        due("has not so many", x.book(1, 0, 0, 0, 0), -1);
        x.feed(0x00010203, 0, 0, 0, 0);
        due("of none", x.book(0, 0, 0, 0, 0), -1);
        due("of 9", x.book(9, 0, 0, 0, 0), -1);
        due("level 5", x.book(4, 5, 0, 0, 0), -1);
        due("level -1", x.book(4, 0, -1, 0, 0), -1);
        due("level 5 third", x.book(4, 0, 0, 5, 0), -1);
        due("level 5 last", x.book(4, 0, 0, 0, 5), -1);
        due("the tape stays", x.count(4), 20);
        due("no books", x.count(1), 0);
        due("one twice", x.book(5, 0, 0, 0, 0), -2);
        due("empty then", x.count(4), 0);
        due("no such person", bookOf(0, 0, 0, 0, 0, 4), -2);
        due("no such person, a large byte", bookOf(0, 0, 0, 0, 255), -2);
        due("none yet", x.count(1), 0);
        due("book", bookOf(2, 0, 1, 0, 3, 0), 0);
        due("lines", x.count(10), 2);
        due("shows 20", x.line(0, 0, 0), 20);
        due("shows 0", x.line(0, 0, 1), 0);
        due("shows all", x.line(0, 0, 2), 32);
        due("is shown", x.count(5), 1);
        x.upper(0, 3, -1);
        due("as the trees were", x.line(0, 0, 0), 20);
        for (int b = 1; b < 4; b++) {
            due("book", bookOf(0, 0, 0, 0, b), b);
        }
        due("a fifth", bookOf(0, 0, 0, 0, 0), -1);
        due("the tape stays with a fifth", x.count(4), 20);
        for (int p = 4; p < 16; p++) {
            x.person(p, p, p, p);
        }
        town();
        for (int p = 4; p < 8; p++) {
            x.person(p, p, p, p);
        }
        due("eight lines", bookOf(0, 0, 0, 0, 7, 6, 5, 4, 3, 2, 1, 0), 0);
        due("the eighth", x.line(0, 7, 4), 0);
    }

    private static void cut() {
        town();
        bookOf(1, 0, 0, 0, 0, 1, 2);
        due("book 1", x.cut(1, 0), false);
        due("book -1", x.cut(-1, 0), false);
        due("line 3", x.cut(0, 3), false);
        due("line -1", x.cut(0, -1), false);
        due("cut", x.cut(0, 1), true);
        due("cut already", x.cut(0, 1), false);
        due("shows nothing", x.line(0, 1, 0), -2);
        due("whose it is", x.line(0, 1, 4), 1);
        due("it is counted", x.count(10), 3);
        due("it needs nobody", x.givings(0, 0), 4);
        due("no gossip of it", tell(0, 0, 1, "a=1"), -1);
        due("no gossip is told", x.count(3), 0);
    }

    private static void swap() {
        town();
        bookOf(1, 0, 0, 0, 0, 1, 2);
        due("the same there", x.swap(0, 0, 1, 0), false);
        due("one twice", x.swap(0, 0, 0, 0), false);
        due("book 1", x.swap(1, 0, 2, 0), false);
        due("line 3", x.swap(0, 0, 3, 0), false);
        due("line -1", x.swap(0, -1, 2, 0), false);
        due("column 4", x.swap(0, 0, 2, 4), false);
        due("column -1", x.swap(0, 0, 2, -1), false);
        due("nothing has changed", x.line(0, 0, 0), 16);
        due("swap", x.swap(0, 0, 2, 0), true);
        due("line 0", x.line(0, 0, 0), 17);
        due("line 2", x.line(0, 2, 0), 16);
        due("whose it is stays", x.line(0, 0, 4), 0);
        due("who fits now", x.fits(0, 0, 0), bits(2, 3));
        x.cut(0, 2);
        due("one is cut", x.swap(0, 0, 2, 0), false);
        due("the other is cut", x.swap(0, 2, 0, 0), false);
    }

    private static void show() {
        town();
        bookOf(0, 0, 0, 0, 0);
        bookOf(0, 0, 0, 0, 1);
        due("it is", x.show(0, true), false);
        due("no more", x.show(0, false), true);
        due("it is not", x.show(0, false), false);
        due("shown ones", x.count(5), 2);
        due("again", x.show(0, true), true);
        due("shown ones then", x.count(5), 3);
        due("book 2", x.show(2, false), false);
        due("book -1", x.show(-1, false), false);
    }

    private static void link() {
        town();
        bookOf(0, 0, 0, 0, 0, 1);
        bookOf(0, 0, 0, 0, 0, 1);
        due("of one book", x.link(0, 0, 0, 1), -1);
        due("book 2", x.link(0, 0, 2, 0), -1);
        due("book -1", x.link(-1, 0, 0, 0), -1);
        due("line 2", x.link(0, 2, 1, 0), -1);
        due("line -1", x.link(0, 0, 1, -1), -1);
        due("none yet", x.count(2), 0);
        x.cut(0, 1);
        due("a cut one, too", x.link(0, 1, 1, 1), 1);
        for (int n = 2; n <= 40; n++) {
            due("told twice, too", x.link(0, 0, 1, 0), n);
        }
        due("a 41st", x.link(0, 0, 1, 0), -1);
        due("links", x.count(2), 40);
    }

    private static void gossipFaults() {
        town();
        bookOf(0, 0, 0, 0, 0);
        String[] texts = {
            "a=1", "x=1", "a", "a=", "a<1)", "(a<1", "a<123456", "a<12345", "a<00000", "((((((a<9))))))", "(((((((a<9",
            "!!!!!!a<9", "!!!!!!!a<9", "[[[[[[a]]]]]]=1", "[[[[[[[a]]]]]]]=1", "!(![a]=1)&!(![a]=1)", "!!!!!![a]=1",
            "!!!!!!a=1&!!!!!!b=2", "((((((a=1))))))|((((((a=1))))))", "a=1&", "a=1|", "a=1||b=1", "&a=1", "a<1<2",
            "[a<1]", "(a)=1", "a=-1", "a=1 ", " a=1", "a+=1", "a*", "a[1]=2", "aa=1", "1a=1", "a=1!b=2",
            "((((((a(", "a=[1", "a=[]", "()", "!", "!a=1", "A=1", "a==1", "123456", "a=123456)", "a=\u00ff", "p=w+l*d/c%b-0"};
        int[] dues = {
            1, -1000, -1001, -1002, -1003, -1004, -2007, 1, 1, 1, -5006,
            1, -5006, 1, -5006, 1, -5006,
            1, 1, -1004, -1004, -1004, -1000, -1003,
            -1002, -1002, -1002, -1003, -1000, -1002, -1002, -1001, -1001, -1001, -1003,
            -1007, -1004, -1003, -1001, -1001, 1, -1000, -1002, -2005, -2007, -1002, 1};
        for (int n = 0; n < texts.length; n++) {
            due("gossip " + texts[n], tell(0, 0, 0, texts[n]), dues[n]);
            due("the tape behind " + texts[n], x.count(4), 0);
        }
    }

    /** Each TEXT of LINE 1 of a BOOK of which all four FIT, with who is left. */
    private static void gossipTexts() {
        x = new TwoFit();
        for (int p = 0; p < 4; p++) {
            x.person(p, 4 + p, 8 + p % 2, 15 - p);
        }
        x.wish(2, 7);
        bookOf(1, 1, 1, 1, 0, 1);
        String[] texts = {
            "a=0", "b=5", "c=9", "d=13", "p=3", "w=7", "l=1", "l=0", "a<2", "a>1", "!a=1", "!!a=1",
            "a=0|a=3", "a>0&a<3", "a=0|a=1&b=4", "(a=0|a=1)&b=4", "!(a=0|a=1)&b=7",
            "8-4-2=2", "8-[4-2]=6", "16/4/2=2", "2+3*4=14", "[2+3]*4=20", "17%5*2=4", "17%[5*2]=7",
            "1/a=1", "!1/a=1", "1/a=5|a=0", "a=0|1/a=1", "a=0&1/a=1|a=0", "(1/a=5|a=0)|a=0", "!(1/a=5)", "0*[1%a]=0",
            "a>0&6/a=3", "50000*50000<0", "32768*65536<0", "32768*65536/[0-1]<0", "[0-7]/2=0-3", "[0-7]%3=0-1",
            "32768*65536-1>0", "1=1|1/0=1", "1=0&1/0=1", "1/0=1|1=1", "!(1=0&1/0=1)", "00001=1", "a-1<0"};
        int[] left = {
            bits(0), bits(1), bits(1, 3), bits(2), bits(3), bits(2), 15, 0, bits(0, 1), bits(2, 3), bits(0, 2, 3), bits(1),
            bits(0, 3), bits(1, 2), bits(0), bits(0), bits(3),
            15, 15, 15, 15, 15, 15, 15,
            bits(1), bits(2, 3), 0, bits(0, 1), 0, 0, bits(1, 2, 3), bits(1, 2, 3),
            bits(2), 15, 15, 15, 15, 15,
            15, 15, 0, 0, 15, 15, bits(0)};
        for (int n = 0; n < texts.length; n++) {
            due("gossip " + texts[n], tell(0, 0, 1, texts[n]), 1);
            due("fits by " + texts[n], x.fits(0, 1, 1), left[n]);
        }
        tell(0, 0, 1, "w>2");
        due("a wish is asked as it is now", x.fits(0, 1, 1), bits(2));
        x.wish(3, 3);
        x.wish(2, 2);
        due("a wish is asked as it is then", x.fits(0, 1, 1), bits(3));
        tell(0, 0, 1, "p>2");
        x.person(9, 9, 9, 9);
        due("of a person made later", x.fits(0, 1, 1), bits(3, 4));
    }

    private static void gossipRefused() {
        town();
        bookOf(1, 0, 0, 0, 0, 1);
        StringBuilder hundred = new StringBuilder("a=0");
        while (hundred.length() < 100) {
            hundred.append(hundred.length() % 2 == 1 ? '+' : '0');
        }
        hundred.setLength(99);
        hundred.append('|');
        due("ends behind 100", tell(7, 0, 0, hundred.toString()), -1100);
        due("none is told", x.count(3), 0);
        due("99 bytes", tell(7, 0, 0, hundred.substring(0, 99)), 1);
        due("told ones", x.count(3), 128);
        x.feed(0x613d3161, 0, 0, 0, 0);
        due("gossip 8", x.gossip(8, 0, 0, 3), -1);
        due("gossip -1", x.gossip(-1, 0, 0, 3), -1);
        due("book 1", x.gossip(0, 1, 0, 3), -1);
        due("line 2", x.gossip(0, 0, 2, 3), -1);
        due("line -1", x.gossip(0, 0, -1, 3), -1);
        due("of no bytes", x.gossip(0, 0, 0, 0), -1);
        due("of 101 bytes", x.gossip(0, 0, 0, 101), -1);
        due("has not so many", x.gossip(0, 0, 0, 21), -1);
        due("the tape stays", x.count(4), 20);
        due("a=1", x.gossip(0, 0, 0, 3), 1);
        due("who fits", x.fits(0, 0, 1), bits(1));
        due("a fault", tell(0, 0, 1, "a=2x"), -1003);
        due("the one before stays", x.fits(0, 0, 1), bits(1));
        due("of its line", x.fits(0, 1, 1), bits(0, 1));
        due("in place of it", tell(0, 0, 1, "a=0"), 1);
        due("the one before is gone", x.fits(0, 0, 1), bits(0, 1));
        due("the new one", x.fits(0, 1, 1), bits(0));
        due("told ones then", x.count(3), 129);
    }

    private static void line() {
        town();
        bookOf(3, 0, 0, 0, 2, 1);
        due("all", x.line(0, 0, 0), 32);
        due("a value", x.line(0, 0, 3), 0);
        due("whose", x.line(0, 0, 4), 2);
        due("column 5", x.line(0, 0, 5), -1);
        due("column -1", x.line(0, 0, -1), -1);
        due("line 2", x.line(0, 2, 0), -1);
        due("book 1", x.line(1, 0, 0), -1);
        x.cut(0, 0);
        due("cut", x.line(0, 0, 3), -2);
        due("whose the cut one is", x.line(0, 0, 4), 2);
        due("no column of a cut one", x.line(0, 0, 5), -1);
    }

    private static void fits() {
        town();
        bookOf(1, 0, 0, 0, 0, 2);
        due("below 16", x.fits(0, 0, 0), bits(0, 1));
        due("what is not told says nothing", x.fits(0, 0, 255), bits(0, 1));
        x.upper(0, 1, 17);
        due("as the tree is now", x.fits(0, 1, 0), bits(1, 2, 3));
        x.person(3, 1, 0, 0);
        due("all columns count", x.fits(0, 1, 0), bits(1, 2, 3));
        tell(0, 0, 1, "a>1");
        tell(3, 0, 1, "a<3");
        tell(4, 0, 0, "a=9");
        due("one known", x.fits(0, 1, 1), bits(2, 3));
        due("both known", x.fits(0, 1, 9), bits(2));
        due("another line's", x.fits(0, 1, 16), bits(1, 2, 3));
        due("known 256", x.fits(0, 1, 256), -1);
        due("known -1", x.fits(0, 1, -1), -1);
        due("line 2", x.fits(0, 2, 0), -1);
        due("book 1", x.fits(1, 0, 0), -1);
        x.cut(0, 1);
        due("cut", x.fits(0, 1, 0), -2);
        due("none ahead of cut", x.fits(0, 1, 256), -1);
    }

    private static void fitsLinked() {
        town();
        int wide = bookOf(4, 0, 0, 0, 0, 1);
        int pairs = bookOf(1, 0, 0, 0, 0, 2);
        int exact = bookOf(0, 0, 0, 0, 1, 2);
        x.link(wide, 0, pairs, 0);
        due("linked", x.fits(wide, 0, 0), bits(0, 1));
        due("the other way", x.fits(pairs, 0, 0), bits(0, 1));
        x.link(exact, 0, pairs, 0);
        due("also by others", x.fits(wide, 0, 0), bits(1));
        x.show(pairs, false);
        due("over one that is not shown", x.fits(wide, 0, 0), 15);
        due("its own need not be shown", x.fits(pairs, 0, 0), bits(1));
        x.show(pairs, true);
        x.show(exact, false);
        due("one that is not shown", x.fits(wide, 0, 0), bits(0, 1));
        tell(5, pairs, 0, "a=0");
        due("its gossips, too", x.fits(wide, 0, 32), bits(0));
        x.cut(pairs, 0);
        due("a cut one leads nowhere", x.fits(wide, 0, 32), 15);
        town();
        int own = bookOf(4, 0, 0, 0, 0, 1);
        int other = bookOf(4, 0, 0, 0, 0);
        x.link(own, 0, other, 0);
        x.link(other, 0, own, 1);
        tell(0, own, 1, "a>1");
        x.show(own, false);
        due("back into its own book", x.fits(own, 0, 1), bits(2, 3));
        due("not from the other one", x.fits(other, 0, 1), 15);
    }

    private static void givings() {
        town();
        bookOf(1, 0, 0, 0, 0, 1, 2);
        due("givings", x.givings(0, 0), 4);
        tell(0, 0, 0, "p=1");
        due("by a gossip", x.givings(0, 1), 2);
        tell(1, 0, 1, "p=1");
        due("none", x.givings(0, 3), 0);
        due("book 1", x.givings(1, 0), -1);
        due("known 256", x.givings(0, 256), -1);
        x.cut(0, 0);
        due("without a cut one", x.givings(0, 3), 2);
        x.cut(0, 1);
        x.cut(0, 2);
        due("of no lines", x.givings(0, 3), 1);
        x = new TwoFit();
        for (int p = 0; p < 16; p++) {
            x.person(p, p, p, p);
        }
        bookOf(1, 1, 1, 1, 8, 9, 10, 11, 12, 13, 14, 15);
        due("the most", x.givings(0, 0), 518918400L);
    }

    private static void odds() {
        blurredTown(0, 1, 2);
        due("above", x.odds(0, 0, 3, 0, 0), 1);
        due("below", x.odds(0, 0, 3, 0, 1), 4);
        tell(0, 0, 0, "p<2");
        tell(1, 0, 1, "p<3");
        due("above of 2 of 8, or more", x.odds(0, 1, 2, 3, 0), 1);
        due("below of them", x.odds(0, 1, 2, 3, 1), 2);
        due("no one's above", x.odds(0, 0, 3, 3, 0), 0);
        due("no one's below", x.odds(0, 0, 3, 3, 1), 1);
        due("what 2", x.odds(0, 0, 0, 0, 2), -1);
        due("what -1", x.odds(0, 0, 0, 0, -1), -1);
        due("person 4", x.odds(0, 0, 4, 0, 0), -1);
        due("person -1", x.odds(0, 0, -1, 0, 0), -1);
        due("line 3", x.odds(0, 3, 0, 0, 0), -1);
        due("known 256", x.odds(0, 0, 0, 256, 0), -1);
        tell(2, 0, 2, "p>9");
        due("no giving", x.odds(0, 0, 0, 4, 0), -2);
        x.cut(0, 2);
        due("cut", x.odds(0, 2, 0, 0, 0), -2);
        due("a giving again", x.odds(0, 0, 0, 4, 1), 4);
    }

    private static void mustBe() {
        blurredTown(0, 1, 2);
        tell(0, 0, 0, "p<1");
        tell(1, 0, 1, "p<2");
        due("must", x.mustBe(0, 0, 0, 1), 2);
        due("must by another line", x.mustBe(0, 1, 1, 3), 2);
        due("can't by another line", x.mustBe(0, 1, 0, 3), 0);
        due("may", x.mustBe(0, 2, 3, 3), 1);
        due("may of all", x.mustBe(0, 0, 0, 0), 1);
        tell(2, 0, 2, "p<1");
        due("no giving", x.mustBe(0, 1, 1, 7), 0);
        due("person 4", x.mustBe(0, 0, 4, 0), -1);
        due("line 3", x.mustBe(0, 3, 0, 0), -1);
        due("book 1", x.mustBe(1, 0, 0, 0), -1);
        due("known 256", x.mustBe(0, 0, 0, 256), -1);
        x.cut(0, 1);
        due("cut", x.mustBe(0, 1, 0, 0), -2);
    }

    private static void giving() {
        blurredTown(3, 2, 1);
        for (int i = 0; i < 3; i++) {
            due("the least", x.giving(0, i, 0), i);
        }
        tell(0, 0, 1, "p=0");
        tell(1, 0, 2, "p<2");
        int[] row = {2, 0, 1};
        for (int i = 0; i < 3; i++) {
            due("the least with gossips", x.giving(0, i, 3), row[i]);
        }
        tell(2, 0, 0, "p=1");
        due("none", x.giving(0, 0, 7), -2);
        due("line 3", x.giving(0, 3, 0), -1);
        due("known -1", x.giving(0, 0, -1), -1);
        x.cut(0, 2);
        due("cut", x.giving(0, 2, 7), -2);
        due("then there is one", x.giving(0, 0, 7), 1);
    }

    private static void tooFew() {
        blurredTown(0, 1, 2, 3);
        due("none", x.tooFew(0, 255), 0);
        tell(0, 0, 0, "p=0");
        tell(1, 0, 3, "p=0");
        due("two", x.tooFew(0, 255), 9);
        tell(2, 0, 1, "p=1");
        tell(3, 0, 2, "p=1");
        due("the least of two sets", x.tooFew(0, 255), 6);
        tell(4, 0, 3, "p=9");
        due("one for whom nobody fits", x.tooFew(0, 255), 8);
        x.cut(0, 3);
        due("without a cut one", x.tooFew(0, 255), 6);
        due("known 256", x.tooFew(0, 256), -1);
        due("book 1", x.tooFew(1, 0), -1);
        blurredTown(0, 1, 2, 3);
        tell(0, 0, 1, "p<2");
        tell(1, 0, 2, "p<2");
        tell(2, 0, 3, "p<2");
        due("three for two", x.tooFew(0, 7), 14);
    }

    private static void steps() {
        blurredTown(0, 1, 2, 3);
        due("no round", x.steps(0, 0, -1), 0);
        due("none found", x.steps(0, 0, 8), 0);
        tell(0, 0, 0, "p=0");
        tell(1, 0, 1, "p<2");
        tell(2, 0, 2, "p=1|p=2");
        due("one round", x.steps(0, 1, -1), 1);
        due("left to another", x.steps(0, 1, 3), bits(1, 2, 3));
        due("four rounds", x.steps(0, 7, -1), 4);
        due("all found", x.steps(0, 7, 8), 15);
        for (int i = 0; i < 4; i++) {
            due("left", x.steps(0, 7, i), 1 << i);
        }
        tell(1, 0, 1, "p=0");
        due("both take it", x.steps(0, 3, -1), 1);
        due("from each other", x.steps(0, 3, 0), 0);
        due("and the other one", x.steps(0, 3, 1), 0);
        due("both are found", x.steps(0, 3, 8), 3);
        due("what 4", x.steps(0, 0, 4), -1);
        due("what 9", x.steps(0, 0, 9), -1);
        due("what -2", x.steps(0, 0, -2), -1);
        due("known 256", x.steps(0, 256, 8), -1);
        due("book 1", x.steps(1, 0, 8), -1);
        x.cut(0, 0);
        due("cut", x.steps(0, 3, 0), -2);
        due("a cut one finds nobody", x.steps(0, 3, 8), 2);
        tell(3, 0, 1, "p>9");
        due("nobody is left", x.steps(0, 8, 1), 0);
        due("that is no finding", x.steps(0, 8, -1), 0);
    }

    private static void safe() {
        blurredTown(0, 1, 2);
        due("for 4", x.safe(0, 4, 0), 7);
        due("for 5", x.safe(0, 5, 0), 0);
        tell(0, 0, 0, "p<2");
        due("one is not", x.safe(0, 4, 1), 6);
        due("for 2", x.safe(0, 2, 1), 7);
        tell(1, 0, 0, "p=3");
        due("whom another must be counts not", x.safe(0, 4, 2), 0);
        due("three may be", x.safe(0, 3, 2), 6);
        x.wish(1, 4);
        due("a wish", x.safe(0, 3, 2), 4);
        due("a wish that is met", x.safe(0, 3, 0), 7);
        x.wish(1, 5);
        due("a wish that isn't met", x.safe(0, 3, 0), 5);
        x.swap(0, 0, 1, 0);
        due("k 0", x.safe(0, 0, 0), -1);
        due("k 17", x.safe(0, 17, 0), -1);
        due("k 16", x.safe(0, 16, 0), 0);
        due("known 256", x.safe(0, 1, 256), -1);
        due("book 1", x.safe(1, 1, 0), -1);
        tell(2, 0, 2, "p>9");
        due("no giving", x.safe(0, 1, 4), 0);
        x.cut(0, 2);
        due("cut", x.safe(0, 1, 4), 1);
    }

    private static void fewest() {
        blurredTown(0, 1, 2);
        due("none are told", x.fewest(0, 0, 0), -2);
        tell(1, 0, 0, "p<2");
        tell(2, 0, 1, "p<2");
        tell(3, 0, 2, "p>1");
        tell(4, 0, 2, "p<3");
        tell(5, 0, 0, "p<1");
        due("one", x.fewest(0, 0, 0), 1);
        due("which", x.fewest(0, 0, 1), 32);
        due("whose", x.fewest(0, 0, 2), 0);
        due("line 2: two", x.fewest(0, 2, 0), 2);
        due("line 2: which", x.fewest(0, 2, 1), 24);
        due("line 2: whose", x.fewest(0, 2, 2), 2);
        due("line 1: two", x.fewest(0, 1, 0), 2);
        due("line 1: which", x.fewest(0, 1, 1), 36);
        due("line 1: whose", x.fewest(0, 1, 2), 1);
        due("what 3", x.fewest(0, 1, 3), -1);
        due("what -1", x.fewest(0, 1, -1), -1);
        due("line 3", x.fewest(0, 3, 0), -1);
        due("book 1", x.fewest(1, 0, 0), -1);
        x.cut(0, 0);
        due("cut", x.fewest(0, 0, 0), -2);
        due("cut, what 3", x.fewest(0, 0, 3), -1);
        due("those of a cut line say nothing", x.fewest(0, 1, 0), -2);
        town();
        bookOf(1, 0, 0, 0, 0, 1);
        bookOf(0, 0, 0, 0, 0);
        tell(0, 1, 0, "p=9");
        x.link(0, 0, 1, 0);
        due("none needed", x.fewest(0, 0, 0), 0);
        due("none of them", x.fewest(0, 0, 1), 0);
        due("whose it is by others", x.fewest(0, 1, 2), 1);
        x.show(1, false);
        due("others' gossips are not taken", x.fewest(0, 0, 0), -2);
        tell(1, 0, 0, "p>9");
        due("no giving is not enough", x.fewest(0, 0, 0), -2);
        town();
        bookOf(1, 0, 0, 0, 0, 1);
        bookOf(1, 0, 0, 0, 0);
        x.link(0, 0, 1, 0);
        tell(0, 1, 0, "p=0");
        due("a shown one's gossips neither", x.fewest(0, 0, 0), -2);
        tell(5, 0, 1, "p=0");
        tell(3, 0, 0, "p=1");
        due("of like ones", x.fewest(0, 0, 0), 1);
        due("the least set", x.fewest(0, 0, 1), 8);
        tell(0, 0, 1, "p<1");
        due("the first gossip", x.fewest(0, 0, 1), 1);
    }

    private static void questions() {
        blurredTown(0, 1, 2, 3);
        due("two of four", x.questions(0, 0, 0, 0), 2);
        due("column", x.questions(0, 0, 0, 1), 0);
        due("node", x.questions(0, 0, 0, 2), 16);
        x.upper(0, 17, -1);
        x.upper(0, 16, -1);
        x.upper(0, 0, -1);
        x.upper(0, 1, -1);
        due("by the other node", x.questions(0, 0, 0, 2), 17);
        x.upper(0, 2, -1);
        due("three, one by one", x.questions(0, 0, 0, 0), 3);
        due("the least node", x.questions(0, 0, 0, 2), 0);
        tell(0, 0, 0, "p=1");
        due("none needed", x.questions(0, 0, 1, 0), 0);
        due("no column", x.questions(0, 0, 1, 1), -3);
        due("no node", x.questions(0, 0, 1, 2), -3);
        tell(0, 0, 0, "p>1");
        due("of two", x.questions(0, 0, 1, 0), 1);
        due("of two: node", x.questions(0, 0, 1, 2), 2);
        tell(0, 0, 0, "p>9");
        due("nobody fits", x.questions(0, 0, 1, 0), -2);
        due("what 3", x.questions(0, 0, 0, 3), -1);
        due("what -1", x.questions(0, 0, 0, -1), -1);
        due("known 256", x.questions(0, 0, 256, 0), -1);
        due("line 4", x.questions(0, 4, 0, 0), -1);
        x.person(3, 0, 0, 0);
        due("two alike", x.questions(0, 0, 0, 0), -2);
        tell(0, 0, 0, "p<4");
        due("one of the two", x.questions(0, 0, 1, 0), 3);
        x.cut(0, 0);
        due("cut", x.questions(0, 0, 0, 0), -2);
        x = new TwoFit();
        for (int p = 0; p < 16; p++) {
            x.person(p / 8, 1 - p / 4 % 2, p % 4, 5);
        }
        bookOf(1, 1, 1, 1, 0);
        due("alike but for one column", x.questions(0, 0, 0, 0), 5);
        due("the first column", x.questions(0, 0, 0, 1), 0);
        x.upper(2, 0, 20);
        x.upper(2, 1, 20);
        due("halves", x.questions(0, 0, 0, 0), 4);
        x = new TwoFit();
        for (int p = 0; p < 16; p++) {
            x.person(0, p, 0, 0);
        }
        bookOf(0, 1, 0, 0, 0);
        due("one by one of sixteen", x.questions(0, 0, 0, 0), 15);
        due("by column 1", x.questions(0, 0, 0, 1), 1);
        for (int p = 0; p < 8; p++) {
            x.upper(1, p, 31);
        }
        due("a tree halves them", x.questions(0, 0, 0, 0), 8);
        due("first", x.questions(0, 0, 0, 2), 31);
    }

    private static void blurring() {
        town();
        x.feed(0x00010203, 0, 0, 0, 0);
        due("of none", x.blurring(0, 1, 0, -1), -3);
        due("of 9", x.blurring(9, 1, 0, -1), -3);
        due("k 0", x.blurring(4, 0, 0, -1), -3);
        due("k 17", x.blurring(4, 17, 0, -1), -3);
        due("price -1", x.blurring(4, 1, -1, -1), -3);
        due("price 10000", x.blurring(4, 1, 10000, -1), -3);
        due("what 5", x.blurring(4, 1, 0, 5), -3);
        due("what -2", x.blurring(4, 1, 0, -2), -3);
        due("-3 ahead of -2", x.blurring(5, 1, 0, 5), -3);
        due("the tape stays", x.count(4), 20);
        due("one twice", x.blurring(5, 1, 0, -1), -2);
        due("empty then", x.count(4), 0);
        due("has not so many", x.blurring(1, 1, 0, -1), -3);
        feedBytes(4);
        due("no such person", x.blurring(1, 1, 0, -1), -2);
        due("no loss", blurringOf(1, 9999, -1, 0, 1, 2, 3), 0);
        due("pairs", blurringOf(2, 9999, -1, 0, 1, 2, 3), 4);
        due("pairs by level 1", blurringOf(2, 9999, 0, 0, 1, 2, 3), 1);
        due("and level 0", blurringOf(2, 9999, 1, 0, 1, 2, 3), 0);
        due("none is cut", blurringOf(2, 9999, 4, 0, 1, 2, 3), 0);
        due("fours", blurringOf(3, 9999, -1, 0, 1, 2, 3), 12);
        due("fours by level 2", blurringOf(4, 9999, 0, 0, 1, 2, 3), 2);
        due("cutting is cheaper", blurringOf(3, 2, -1, 0, 1, 2, 3), 8);
        due("all are cut", blurringOf(3, 2, 4, 0, 1, 2, 3), 4);
        due("the least row of like ones", blurringOf(3, 3, 0, 0, 1, 2, 3), 0);
        due("five can't be", blurringOf(5, 9999, -1, 0, 1), 19998);
        due("both cut", blurringOf(5, 9999, 4, 0, 1), 2);
        x.weight(0, 0);
        due("no weight", blurringOf(2, 9999, -1, 0, 1), 0);
        x.weight(0, 7);
        due("weight 7", blurringOf(2, 9999, -1, 0, 1), 14);
        x.person(0, 5, 0, 0);
        due("by another column: all", blurringOf(2, 9999, -1, 4), 15);
        due("level 0 of column 0", blurringOf(2, 9999, 0, 4), 0);
        due("level 1 of column 1", blurringOf(2, 9999, 1, 4), 1);
        x = new TwoFit();
        x.upper(3, 0, 17);
        x.upper(3, 1, 17);
        x.upper(3, 17, 19);
        x.upper(3, 19, 21);
        x.upper(3, 21, 31);
        x.upper(3, 2, 18);
        x.upper(3, 18, 20);
        x.upper(3, 20, 22);
        x.upper(3, 22, 31);
        x.upper(3, 31, -1);
        x.person(0, 0, 0, 0);
        x.person(0, 0, 0, 2);
        due("four steps up", blurringOf(2, 9999, 3, 0, 1), 4);
        due("their loss", blurringOf(2, 9999, -1, 0, 1), 4);
    }

    private static int blurringOf(int k, int price, int what, int... people) {
        feedBytes(people);
        return x.blurring(people.length, k, price, what);
    }

    private static void bestSwap() {
        town();
        bookOf(1, 0, 0, 0, 0, 1);
        due("there is none", x.bestSwap(0, 1, 0), -2);
        due("book 1", x.bestSwap(1, 1, 0), -1);
        due("k 0", x.bestSwap(0, 0, 0), -1);
        due("k 17", x.bestSwap(0, 17, 0), -1);
        due("what 4", x.bestSwap(0, 1, 4), -1);
        due("what -1", x.bestSwap(0, 1, -1), -1);
        // VALUES 0 0, 0 1, 1 0, 1 1 and 0 0 again: a LINE that shows 0 0 may be two
        x = new TwoFit();
        x.person(0, 0, 0, 0);
        x.person(0, 1, 0, 0);
        x.person(1, 0, 0, 0);
        x.person(1, 1, 0, 0);
        x.person(0, 0, 0, 0);
        bookOf(0, 0, 0, 0, 1, 2, 3);
        due("none is safe for 2 now", x.safe(0, 2, 0), 0);
        due("column", x.bestSwap(0, 2, 0), 0);
        due("first", x.bestSwap(0, 2, 1), 0);
        due("second", x.bestSwap(0, 2, 2), 1);
        due("safe then", x.bestSwap(0, 2, 3), 0);
        due("nothing has changed", x.line(0, 0, 0), 0);
        x.person(1, 1, 0, 0);
        due("all are safe then", x.bestSwap(0, 2, 3), 3);
        x.cut(0, 2);
        due("by column 0", x.bestSwap(0, 2, 0), 0);
        due("both are safe", x.bestSwap(0, 2, 3), 2);
        tell(0, 0, 0, "p=9");
        due("no gossip is known", x.bestSwap(0, 2, 3), 2);
        x.wish(1, 3);
        due("a wish", x.bestSwap(0, 2, 3), 1);
        x.cut(0, 1);
        due("of one line", x.bestSwap(0, 2, 0), -2);
    }

    private static void together() {
        town();
        int pairs = bookOf(1, 0, 0, 0, 0, 2);
        int wide = bookOf(4, 0, 0, 0, 0, 1);
        due("no links", x.together(2, 0), -2);
        x.link(wide, 1, pairs, 1);
        due("for 2 both are safe", x.together(2, 0), -2);
        due("for 3 the wide one", x.together(3, 0), wide);
        due("its line", x.together(3, 1), 1);
        due("whom it may be", x.together(3, 2), bits(2, 3));
        due("for 5 none is safe by itself", x.together(5, 0), -2);
        x.link(wide, 1, pairs, 0);
        due("nobody is left", x.together(2, 2), 0);
        due("the first book then", x.together(2, 0), pairs);
        due("its first line", x.together(2, 1), 0);
        x.show(pairs, false);
        due("shown alone", x.together(3, 0), -2);
        x.show(pairs, true);
        x.show(wide, false);
        due("the other one alone", x.together(2, 0), -2);
        x.show(wide, true);
        x.cut(wide, 1);
        due("cut", x.together(3, 0), -2);
        due("k 0", x.together(0, 0), -1);
        due("k 17", x.together(17, 0), -1);
        due("what 3", x.together(1, 3), -1);
        due("what -1", x.together(1, -1), -1);
    }

    private static void loss() {
        town();
        bookOf(1, 0, 1, 0, 0, 1, 2);
        due("loss", x.loss(0), 48);
        x.weight(0, 10);
        due("weight 10", x.loss(0), 75);
        x.weight(2, 0);
        due("weight 0", x.loss(0), 30);
        x.cut(0, 2);
        due("cut", x.loss(0), 20);
        x.upper(0, 0, -1);
        x.upper(0, 1, -1);
        due("not below 0", x.loss(0), 0);
        due("book 1", x.loss(1), -1);
        due("book -1", x.loss(-1), -1);
    }

    private static void linesOf() {
        town();
        bookOf(1, 0, 0, 0, 0, 1, 2);
        due("of 1", x.linesOf(0, 1, 0), 3);
        due("of 3", x.linesOf(0, 3, 0), 4);
        tell(0, 0, 0, "p=0");
        due("of 0, by a gossip", x.linesOf(0, 0, 1), 1);
        due("of 1, by a gossip", x.linesOf(0, 1, 1), 2);
        tell(1, 0, 1, "p=0");
        due("no giving", x.linesOf(0, 2, 3), 0);
        due("person 4", x.linesOf(0, 4, 0), -1);
        due("book 1", x.linesOf(1, 0, 0), -1);
        due("known 256", x.linesOf(0, 0, 256), -1);
        x.cut(0, 0);
        due("cut", x.linesOf(0, 1, 0), 2);
    }

    private static void check() {
        town();
        bookOf(1, 3, 0, 0, 0, 1);
        due("of no numbers", x.check(0, 0, 0), -1);
        x.feed(16, 32, 0, 0, 9);
        due("right", x.check(0, 0, 4), -1);
        due("empty then", x.count(4), 0);
        x.feed(16, 32, 1, 1, 9);
        due("the first wrong one", x.check(0, 0, 4), 2);
        due("empty then, too", x.count(4), 0);
        x.feed(16, 32, 1, 1, 9);
        due("the first two are right", x.check(0, 0, 2), -1);
        for (int n = 8; n < 32; n += 8) {
            x.feed(16 | 1 << n, 32, 0, 0, 0);
            due("all four bytes count", x.check(0, 0, 1), 0);
        }
        x.feed(-16, 0, 0, 0, 0);
        due("the first is wrong", x.check(0, 0, 4), 0);
        due("has not so many", x.check(0, 0, 1), -2);
        x.feed(16, 32, 0, 0, 9);
        due("five", x.check(0, 0, 5), -2);
        due("-1", x.check(0, 0, -1), -2);
        due("line 2", x.check(0, 2, 1), -2);
        due("book 1", x.check(1, 0, 1), -2);
        x.cut(0, 0);
        due("cut", x.check(0, 0, 1), -2);
        due("the tape stays", x.count(4), 20);
        due("of another line", x.check(0, 1, 4), -1);
    }

    private static void count() {
        town();
        x.wish(3, 5);
        x.weight(1, 8);
        bookOf(0, 0, 0, 0, 0, 1, 2);
        bookOf(0, 0, 0, 0, 0);
        x.cut(0, 0);
        x.show(0, false);
        x.link(0, 1, 1, 0);
        tell(0, 0, 1, "a=1");
        tell(6, 1, 0, "a=1");
        x.feed(0, 0, 0, 0, 0);
        int[] whats = {0, 1, 2, 3, 4, 5, 10, 11, 20, 21, 23, 30, 33};
        int[] dues = {4, 2, 1, 65, 20, 2, 3, 1, 1, 8, 1, 0, 5};
        for (int n = 0; n < whats.length; n++) {
            due("count " + whats[n], x.count(whats[n]), dues[n]);
        }
        int[] others = {-1, 6, 9, 12, 13, 14, 19, 24, 29, 34, 46, 1000, Integer.MIN_VALUE, Integer.MAX_VALUE};
        for (int what : others) {
            due("count " + what, x.count(what), -1);
        }
    }
}
