/**
 * A town whose books may be shown if of each line enough people fit.
 * What each call answers is told by the document's promises 1 to 32; words in
 * capitals are the document's terms. Sets of PEOPLE, LINES, BOOKS and GOSSIPS
 * are ints, a bit for each.
 */
public final class TwoFit {
    public static final int NONE = -1;

    private static final int NO_ANSWER = -2;
    private static final int NO_QUESTION = -3;
    private static final int NO_BLURRING = -3;
    private static final int COLUMNS = 4;
    private static final int VALUES = 16;
    private static final int NODES = 32;
    private static final int ALL = 32;
    private static final int LEVELS = 5;
    private static final int PEOPLE = 16;
    private static final int BOOKS = 4;
    private static final int LINES = 8;
    private static final int LINKS = 40;
    private static final int GOSSIPS = 8;
    private static final int TEXT = 100;
    private static final int TAPE = 200;
    private static final int OPEN = 6;

    private final Column[] columns = new Column[COLUMNS];
    private final int[] wishes = new int[PEOPLE];
    private final Tape tape = new Tape();
    private final Book[] books = new Book[BOOKS];
    private final Links links = new Links();
    private final Gossip[] gossips = new Gossip[GOSSIPS];
    private final Matching matching = new Matching();
    private final Asking asking = new Asking();
    private final Blurs blurs = new Blurs();
    private final int[] letters = new int[COLUMNS + 3];
    private Gossip draft = new Gossip();
    private int people = 0;
    private int bookCount = 0;

    public TwoFit() {
        for (int c = 0; c < COLUMNS; c++) {
            columns[c] = new Column();
        }
        for (int b = 0; b < BOOKS; b++) {
            books[b] = new Book();
        }
        for (int g = 0; g < GOSSIPS; g++) {
            gossips[g] = new Gossip();
        }
    }

    // ---- the town: promises 2 to 8

    public boolean upper(int c, int node, int up) {
        if (!isColumn(c) || !within(node, 0, NODES - 1)) {
            return false;
        }
        if (up != NONE && (!within(up, VALUES, NODES - 1) || up <= node)) {
            return false;
        }
        columns[c].hang(node, up);
        asking.forget();
        return true;
    }

    public boolean weight(int c, int n) {
        if (!isColumn(c) || !within(n, 0, 99)) {
            return false;
        }
        columns[c].weighs = n;
        return true;
    }

    public int person(int a, int b, int c, int d) {
        if (!isValue(a) || !isValue(b) || !isValue(c) || !isValue(d) || people >= PEOPLE) {
            return NONE;
        }
        int p = people;
        people++;
        columns[0].settle(p, a);
        columns[1].settle(p, b);
        columns[2].settle(p, c);
        columns[3].settle(p, d);
        judgeAll(p);
        return p;
    }

    public boolean wish(int p, int n) {
        if (!isPerson(p) || !within(n, 0, 16)) {
            return false;
        }
        wishes[p] = n;
        judgeAll(p);
        return true;
    }

    public int feed(int a, int b, int c, int d, int e) {
        if (tape.length + 20 > TAPE) {
            return NONE;
        }
        tape.append(a);
        tape.append(b);
        tape.append(c);
        tape.append(d);
        tape.append(e);
        return tape.length;
    }

    public int blurred(int c, int value, int n) {
        if (!isColumn(c) || !isValue(value) || !isLevel(n)) {
            return NONE;
        }
        return columns[c].raised(value, n);
    }

    public int size(int c, int node) {
        if (!isColumn(c) || !within(node, 0, ALL)) {
            return NONE;
        }
        return columns[c].valuesBelow(node);
    }

    // ---- the books: promises 9 to 15

    public int book(int n, int l0, int l1, int l2, int l3) {
        if (!within(n, 1, LINES) || bookCount >= BOOKS || tape.length < n) {
            return NONE;
        }
        if (!isLevel(l0) || !isLevel(l1) || !isLevel(l2) || !isLevel(l3)) {
            return NONE;
        }
        boolean right = tellsPeople(n);
        if (right) {
            Book made = books[bookCount];
            for (int i = 0; i < n; i++) {
                made.add(tape.byteAt(i));
            }
            fillColumn(made, 0, l0);
            fillColumn(made, 1, l1);
            fillColumn(made, 2, l2);
            fillColumn(made, 3, l3);
            bookCount++;
        }
        tape.clear();
        return right ? bookCount - 1 : NO_ANSWER;
    }

    public boolean cut(int b, int i) {
        if (!isLive(b, i)) {
            return false;
        }
        books[b].live &= ~(1 << i);
        return true;
    }

    public boolean swap(int b, int i, int j, int c) {
        if (!isLive(b, i) || !isLive(b, j) || i == j || !isColumn(c)) {
            return false;
        }
        if (books[b].nodeAt(i, c) == books[b].nodeAt(j, c)) {
            return false;
        }
        books[b].exchange(i, j, c);
        return true;
    }

    public boolean show(int b, boolean is) {
        if (!isBook(b) || books[b].isShown == is) {
            return false;
        }
        books[b].isShown = is;
        return true;
    }

    public int link(int a, int i, int b, int j) {
        if (!isLine(a, i) || !isLine(b, j) || a == b || links.number >= LINKS) {
            return NONE;
        }
        links.add(place(a, i), place(b, j));
        return links.number;
    }

    public int gossip(int g, int b, int i, int n) {
        if (!within(g, 0, GOSSIPS - 1) || !isLive(b, i) || !within(n, 1, TEXT) || tape.length < n) {
            return NONE;
        }
        draft.write(tape, n);
        tape.clear();
        draft.read();
        if (draft.fault != 0) {
            return -1000 * draft.fault - draft.faultAt;
        }
        Gossip told = draft;
        draft = gossips[g];
        gossips[g] = told;
        told.tellOf(b, i);
        for (int p = 0; p < people; p++) {
            spell(p);
            told.judge(letters);
        }
        return 1;
    }

    public int line(int b, int i, int c) {
        if (!isLine(b, i) || !within(c, 0, COLUMNS)) {
            return NONE;
        }
        if (c == COLUMNS) {
            return books[b].owner(i);
        }
        return isLive(b, i) ? books[b].nodeAt(i, c) : NO_ANSWER;
    }

    // ---- who fits, and givings: promises 16 to 23

    public int fits(int b, int i, int known) {
        if (!isLine(b, i) || !areGossips(known)) {
            return NONE;
        }
        if (!isLive(b, i)) {
            return NO_ANSWER;
        }
        fit(b, known);
        return matching.fit[i];
    }

    public long givings(int b, int known) {
        if (!isBook(b) || !areGossips(known)) {
            return NONE;
        }
        fit(b, known);
        return matching.number();
    }

    public long odds(int b, int i, int p, int known, int what) {
        if (!isLine(b, i) || !isPerson(p) || !areGossips(known) || !within(what, 0, 1)) {
            return NONE;
        }
        if (!isLive(b, i)) {
            return NO_ANSWER;
        }
        fit(b, known);
        long below = matching.number();
        if (below == 0) {
            return NO_ANSWER;
        }
        matching.fit[i] &= 1 << p;
        long above = matching.number();
        long divisor = commonDivisor(above, below);
        if (divisor == 0) {
            return NO_ANSWER;
        }
        return what == 0 ? above / divisor : below / divisor;
    }

    public int mustBe(int b, int i, int p, int known) {
        if (!isLine(b, i) || !isPerson(p) || !areGossips(known)) {
            return NONE;
        }
        if (!isLive(b, i)) {
            return NO_ANSWER;
        }
        fit(b, known);
        matching.weigh();
        int may = matching.may[i];
        if ((may >> p & 1) == 0) {
            return 0;
        }
        return Integer.bitCount(may) == 1 ? 2 : 1;
    }

    public int giving(int b, int i, int known) {
        if (!isLine(b, i) || !areGossips(known)) {
            return NONE;
        }
        if (!isLive(b, i)) {
            return NO_ANSWER;
        }
        fit(b, known);
        int given = matching.least(i);
        return given == NONE ? NO_ANSWER : given;
    }

    public int tooFew(int b, int known) {
        if (!isBook(b) || !areGossips(known)) {
            return NONE;
        }
        fit(b, known);
        matching.weigh();
        return matching.lacking;
    }

    public int steps(int b, int known, int what) {
        if (!isBook(b) || !areGossips(known)) {
            return NONE;
        }
        if (what != NONE && what != LINES && !isLine(b, what)) {
            return NONE;
        }
        if (within(what, 0, LINES - 1) && !isLive(b, what)) {
            return NO_ANSWER;
        }
        fit(b, known);
        int rounds = matching.stepByStep();
        if (what == NONE) {
            return rounds;
        }
        return what == LINES ? matching.found : matching.left(what);
    }

    public int safe(int b, int k, int known) {
        if (!isBook(b) || !isBar(k) || !areGossips(known)) {
            return NONE;
        }
        fit(b, known);
        return safeLines(b, k);
    }

    // ---- the searches: promises 24 to 28

    public int fewest(int b, int i, int what) {
        if (!isLine(b, i) || !within(what, 0, 2)) {
            return NONE;
        }
        if (!isLive(b, i)) {
            return NO_ANSWER;
        }
        int best = fewestGossips(b, i);
        if (best == NONE) {
            return NO_ANSWER;
        }
        if (what == 0) {
            return Integer.bitCount(best);
        }
        return what == 1 ? best : lowest(mayLaid(b, i, best));
    }

    public int questions(int b, int i, int known, int what) {
        if (!isLine(b, i) || !areGossips(known) || !within(what, 0, 2)) {
            return NONE;
        }
        if (!isLive(b, i)) {
            return NO_ANSWER;
        }
        fit(b, known);
        int sought = matching.fit[i];
        if (sought == 0 || someAlike(sought)) {
            return NO_ANSWER;
        }
        asking.prepare(columns, sought);
        int n = asking.fewestFor(sought);
        if (what == 0) {
            return n;
        }
        return n == 0 ? NO_QUESTION : firstQuestion(sought, n, what);
    }

    public int blurring(int n, int k, int price, int what) {
        if (!within(n, 1, LINES) || !isBar(k) || !within(price, 0, 9999)) {
            return NO_BLURRING;
        }
        if (!within(what, NONE, COLUMNS) || tape.length < n) {
            return NO_BLURRING;
        }
        boolean right = tellsPeople(n);
        if (right) {
            prepareBlurs(n);
            blurs.find(n, k, price);
        }
        tape.clear();
        if (!right) {
            return NO_ANSWER;
        }
        if (what == NONE) {
            return blurs.least;
        }
        return what == COLUMNS ? blurs.leastCut : Blurs.level(blurs.leastRow, what);
    }

    public int bestSwap(int b, int k, int what) {
        if (!isBook(b) || !isBar(k) || !within(what, 0, 3)) {
            return NONE;
        }
        int answer = NO_ANSWER;
        int most = NONE;
        layOut(b, openFor(b));
        for (int c = 0; c < COLUMNS; c++) {
            for (int i = 0; i < LINES; i++) {
                for (int j = i + 1; j < LINES; j++) {
                    int safe = safeIfSwapped(b, k, i, j, c);
                    if (safe > most) {
                        most = safe;
                        answer = what == 0 ? c : what == 1 ? i : what == 2 ? j : safe;
                    }
                }
            }
        }
        return answer;
    }

    public int together(int k, int what) {
        if (!isBar(k) || !within(what, 0, 2)) {
            return NONE;
        }
        for (int b = 0; b < bookCount; b++) {
            int i = books[b].isShown ? firstBared(b, k) : NONE;
            if (i != NONE) {
                return what == 0 ? b : what == 1 ? i : matching.may[i];
            }
        }
        return NO_ANSWER;
    }

    // ---- losses, checks and counts: promises 29 to 32

    public int loss(int b) {
        if (!isBook(b)) {
            return NONE;
        }
        int sum = 0;
        for (int i = 0; i < LINES; i++) {
            sum += isLive(b, i) ? lossOfLine(books[b], i) : 0;
        }
        return sum;
    }

    public int linesOf(int b, int p, int known) {
        if (!isBook(b) || !isPerson(p) || !areGossips(known)) {
            return NONE;
        }
        fit(b, known);
        matching.weigh();
        int lines = 0;
        for (int i = 0; i < LINES; i++) {
            lines |= (matching.may[i] >> p & 1) << i;
        }
        return lines;
    }

    public int check(int b, int i, int n) {
        if (!isLive(b, i) || !within(n, 0, COLUMNS) || tape.length < 4 * n) {
            return NO_ANSWER;
        }
        int wrong = NONE;
        for (int c = 0; c < n && wrong == NONE; c++) {
            if (tape.number(4 * c) != books[b].nodeAt(i, c)) {
                wrong = c;
            }
        }
        tape.clear();
        return wrong;
    }

    public int count(int what) {
        switch (what) {
            case 0:
                return people;
            case 1:
                return bookCount;
            case 2:
                return links.number;
            case 3:
                return toldGossips();
            case 4:
                return tape.length;
            case 5:
                return shownBooks();
            default:
                break;
        }
        if (isBook(what - 10)) {
            return books[what - 10].lines;
        }
        if (isColumn(what - 20)) {
            return columns[what - 20].weighs;
        }
        return isPerson(what - 30) ? wishes[what - 30] : NONE;
    }

    // ---- what is there

    private static boolean within(int n, int least, int most) {
        return n >= least && n <= most;
    }

    private static boolean isColumn(int c) {
        return c >= 0 && c < COLUMNS;
    }

    private static boolean isValue(int value) {
        return within(value, 0, VALUES - 1);
    }

    private static boolean isLevel(int n) {
        return within(n, 0, LEVELS - 1);
    }

    private static boolean isBar(int k) {
        return within(k, 1, 16);
    }

    private static boolean areGossips(int known) {
        return within(known, 0, (1 << GOSSIPS) - 1);
    }

    private boolean isPerson(int p) {
        return p >= 0 && p < people;
    }

    private boolean isBook(int b) {
        return b >= 0 && b < bookCount;
    }

    /** CUT ones, too. */
    private boolean isLine(int b, int i) {
        return isBook(b) && within(i, 0, books[b].lines - 1);
    }

    /** Not a CUT one. */
    private boolean isLive(int b, int i) {
        return isLine(b, i) && (books[b].live >> i & 1) == 1;
    }

    private int shownBooks() {
        int shown = 0;
        for (int b = 0; b < bookCount; b++) {
            if (books[b].isShown) {
                shown |= 1 << b;
            }
        }
        return shown;
    }

    private int toldGossips() {
        int told = 0;
        for (int g = 0; g < GOSSIPS; g++) {
            if (gossips[g].isTold) {
                told |= 1 << g;
            }
        }
        return told;
    }

    /** The number that a LINE has among those of all BOOKS. */
    private static int place(int b, int i) {
        return LINES * b + i;
    }

    /** The least of a set; NONE if it is empty. */
    private static int lowest(int set) {
        for (int n = 0; n < 32; n++) {
            if ((set >>> n & 1) == 1) {
                return n;
            }
        }
        return NONE;
    }

    private static long commonDivisor(long a, long b) {
        long x = a;
        long y = b;
        // of two longs it is found in under a hundred steps
        for (int n = 0; n < 1000 && y != 0; n++) {
            long rest = x % y;
            x = y;
            y = rest;
        }
        return x;
    }

    // ---- making books

    /** Whether the first n bytes of the tape tell PEOPLE that are there, none twice. */
    private boolean tellsPeople(int n) {
        int told = 0;
        for (int at = 0; at < n; at++) {
            int p = tape.byteAt(at);
            if (!isPerson(p) || (told >> p & 1) == 1) {
                return false;
            }
            told |= 1 << p;
        }
        return true;
    }

    private void fillColumn(Book made, int c, int level) {
        for (int i = 0; i < made.lines; i++) {
            int value = columns[c].valueOf(made.owner(i));
            made.put(i, c, columns[c].raised(value, level));
        }
    }

    // ---- gossips: whom a TEXT holds for is kept, so it is judged anew when a PERSON or a WISH changes

    private void judgeAll(int p) {
        spell(p);
        for (int g = 0; g < GOSSIPS; g++) {
            if (gossips[g].isTold) {
                gossips[g].judge(letters);
            }
        }
    }

    /** Puts what the letters a b c d p w are for a PERSON; l is each GOSSIP's own. */
    private void spell(int p) {
        for (int c = 0; c < COLUMNS; c++) {
            letters[c] = columns[c].valueOf(p);
        }
        letters[Gossip.P] = p;
        letters[Gossip.W] = isPerson(p) ? wishes[p] : 0;
    }

    // ---- fitting

    /** The BOOKS through which LINKS lead, seen from a BOOK. */
    private int openFor(int b) {
        return shownBooks() | 1 << b;
    }

    /**
     * Tells the matching which LINES each LINE of a BOOK is laid on, LINKS leading through open
     * BOOKS. It is apart from fitLaid(), as searches fit one laid out BOOK many times.
     */
    private void layOut(int b, int open) {
        int alive = 0;
        for (int x = 0; x < bookCount; x++) {
            if ((open >> x & 1) == 1) {
                alive |= books[x].live << place(x, 0);
            }
        }
        for (int i = 0; i < LINES; i++) {
            matching.laid[i] = isLive(b, i) ? links.reached(place(b, i), alive) : 0;
        }
    }

    /** Tells the matching who FITS each LINE, as it was laid out. */
    private void fitLaid(int b, int known) {
        matching.lines = books[b].lines;
        matching.live = books[b].live;
        for (int i = 0; i < LINES; i++) {
            matching.fit[i] = isLive(b, i) ? fitAll(matching.laid[i], known) : 0;
        }
    }

    private void fit(int b, int known) {
        layOut(b, openFor(b));
        fitLaid(b, known);
    }

    /** Who fits all LINES of a set of places. */
    private int fitAll(int laid, int known) {
        int who = (1 << people) - 1;
        for (int b = 0; b < bookCount; b++) {
            for (int i = 0; i < books[b].lines; i++) {
                if ((laid >>> place(b, i) & 1) == 1) {
                    who &= fitAlone(b, i, known);
                }
            }
        }
        return who;
    }

    private int fitAlone(int b, int i, int known) {
        int who = columns[0].whoBelow(books[b].nodeAt(i, 0));
        for (int c = 1; c < COLUMNS; c++) {
            who &= columns[c].whoBelow(books[b].nodeAt(i, c));
        }
        for (int g = 0; g < GOSSIPS; g++) {
            if ((known >> g & 1) == 1 && gossips[g].isOf(b, i)) {
                who &= gossips[g].holds;
            }
        }
        return who;
    }

    // ---- safety

    /** The LINES of the fitted BOOK that are SAFE for k. */
    private int safeLines(int b, int k) {
        matching.weigh();
        int safe = 0;
        for (int i = 0; i < LINES; i++) {
            if (isLive(b, i)) {
                int owner = books[b].owner(i);
                int wished = isPerson(owner) ? wishes[owner] : 0;
                if (Integer.bitCount(matching.may[i]) >= Math.max(k, wished)) {
                    safe |= 1 << i;
                }
            }
        }
        return safe;
    }

    /** How many LINES of the laid out BOOK are SAFE by a swap; NONE if there is no such swap. */
    private int safeIfSwapped(int b, int k, int i, int j, int c) {
        if (!swap(b, i, j, c)) {
            return NONE;
        }
        fitLaid(b, 0);
        int safe = Integer.bitCount(safeLines(b, k));
        books[b].exchange(i, j, c);
        return safe;
    }

    /** The first LINE of a SHOWN BOOK that is bared by the other ones; NONE if none is. */
    private int firstBared(int b, int k) {
        layOut(b, 1 << b);
        fitLaid(b, 0);
        if (safeLines(b, k) != books[b].live) {
            return NONE;
        }
        fit(b, 0);
        return lowest(books[b].live & ~safeLines(b, k));
    }

    private int lossOfLine(Book book, int i) {
        int sum = 0;
        for (int c = 0; c < COLUMNS; c++) {
            sum += columns[c].lossOf(book.nodeAt(i, c));
        }
        return sum;
    }

    // ---- searches

    /** The FEWEST GOSSIPS, as bits; NONE if none are enough. The BOOK is laid out then. */
    private int fewestGossips(int b, int i) {
        int usable = 0;
        for (int g = 0; g < GOSSIPS; g++) {
            if (gossips[g].isTold && gossips[g].ofBook == b) {
                usable |= 1 << g;
            }
        }
        layOut(b, openFor(b));
        int best = NONE;
        for (int set = 0; set < 1 << GOSSIPS; set++) {
            boolean fewer = best == NONE || Integer.bitCount(set) < Integer.bitCount(best);
            if (fewer && (set & ~usable) == 0 && Integer.bitCount(mayLaid(b, i, set)) == 1) {
                best = set;
            }
        }
        return best;
    }

    /** Whom a LINE of the laid out BOOK MAY or MUST be. */
    private int mayLaid(int b, int i, int known) {
        fitLaid(b, known);
        matching.weigh();
        return matching.may[i];
    }

    /** Whether two of some PEOPLE have all VALUES alike. */
    private boolean someAlike(int who) {
        for (int p = 0; p < people; p++) {
            int alike = who;
            for (int c = 0; c < COLUMNS; c++) {
                alike &= columns[c].whoBelow(columns[c].valueOf(p));
            }
            if (Integer.bitCount(alike) > 1) {
                return true;
            }
        }
        return false;
    }

    /** The first QUESTION by which n are enough: its COLUMN (what 1) or its NODE. */
    private int firstQuestion(int sought, int n, int what) {
        for (int c = 0; c < COLUMNS; c++) {
            for (int node = 0; node < NODES; node++) {
                if (asking.isFirst(sought, columns[c].whoBelow(node), n)) {
                    return what == 1 ? c : node;
                }
            }
        }
        return NO_ANSWER;
    }

    /** Tells what each of the told PEOPLE's LINES would show by each LEVEL. */
    private void prepareBlurs(int n) {
        blurs.clear();
        for (int c = 0; c < COLUMNS; c++) {
            for (int i = 0; i < n; i++) {
                prepareBlursOf(c, i, columns[c].valueOf(tape.byteAt(i)));
            }
        }
    }

    private void prepareBlursOf(int c, int i, int value) {
        int before = NONE;
        for (int level = 0; level < LEVELS; level++) {
            int node = columns[c].raised(value, level);
            blurs.put(c, level, i, columns[c].whoBelow(node), columns[c].lossOf(node));
            if (node != before) {
                blurs.raiseTop(c, level);
            }
            before = node;
        }
    }

    /** A COLUMN: its TREE, its WEIGHT and the PEOPLE's VALUES in it. */
    private static final class Column {
        int weighs = 1;
        private final int[] above = new int[NODES];
        private final int[] sizes = new int[NODES + 1];
        private final int[] who = new int[NODES + 1];
        private final int[] values = new int[PEOPLE];
        private int settled = 0;

        Column() {
            for (int node = 0; node < NODES; node++) {
                above[node] = NONE;
                sizes[node] = node < VALUES ? 1 : 0;
            }
            sizes[ALL] = VALUES;
        }

        /** SIZES and who is BELOW are kept, as they are asked far more often than a TREE changes. */
        void hang(int node, int up) {
            if (!within(node, 0, NODES - 1)) {
                return;
            }
            above[node] = up;
            for (int n = 0; n < NODES; n++) {
                sizes[n] = 0;
                who[n] = 0;
            }
            for (int value = 0; value < VALUES; value++) {
                climb(value, 1, 0);
            }
            for (int p = 0; p < settled; p++) {
                climb(values[p], 0, 1 << p);
            }
        }

        void settle(int p, int value) {
            if (within(p, 0, PEOPLE - 1) && isValue(value)) {
                values[p] = value;
                settled = p + 1;
                climb(value, 0, 1 << p);
                who[ALL] |= 1 << p;
            }
        }

        private void climb(int value, int more, int bits) {
            int node = value;
            for (int step = 0; step < NODES && within(node, 0, NODES - 1); step++) {
                sizes[node] += more;
                who[node] |= bits;
                node = above[node];
            }
        }

        int raised(int value, int n) {
            int node = value;
            for (int step = 0; step < n && within(node, 0, NODES - 1); step++) {
                node = above[node] == NONE ? ALL : above[node];
            }
            return node;
        }

        int valueOf(int p) {
            return p >= 0 && p < PEOPLE ? values[p] : 0;
        }

        int whoBelow(int node) {
            return node >= 0 && node <= ALL ? who[node] : 0;
        }

        int valuesBelow(int node) {
            return node >= 0 && node <= ALL ? sizes[node] : 0;
        }

        int lossOf(int node) {
            return weighs * Math.max(valuesBelow(node) - 1, 0);
        }
    }

    /** The tape of bytes by which PEOPLE, TEXTS and numbers are told. */
    private static final class Tape {
        int length = 0;
        private final int[] bytes = new int[TAPE];

        void append(int number) {
            for (int shift = 24; shift >= 0 && length < TAPE; shift -= 8) {
                bytes[length] = number >>> shift & 255;
                length++;
            }
        }

        int byteAt(int at) {
            return within(at, 0, length - 1) ? bytes[at] : 0;
        }

        int number(int at) {
            return byteAt(at) << 24 | byteAt(at + 1) << 16 | byteAt(at + 2) << 8 | byteAt(at + 3);
        }

        void clear() {
            length = 0;
        }
    }

    /** A BOOK: whose its LINES are, what they show, and which are not CUT. */
    private static final class Book {
        int lines = 0;
        int live = 0;
        boolean isShown = true;
        private final int[] owners = new int[LINES];
        private final int[][] nodes = new int[LINES][COLUMNS];

        void add(int owner) {
            if (lines < LINES) {
                owners[lines] = owner;
                live |= 1 << lines;
                lines++;
            }
        }

        int owner(int i) {
            return within(i, 0, lines - 1) ? owners[i] : NONE;
        }

        void put(int i, int c, int node) {
            if (within(i, 0, lines - 1) && isColumn(c)) {
                nodes[i][c] = node;
            }
        }

        int nodeAt(int i, int c) {
            return i >= 0 && i < lines && c >= 0 && c < COLUMNS ? nodes[i][c] : NONE;
        }

        void exchange(int i, int j, int c) {
            int first = nodeAt(i, c);
            put(i, c, nodeAt(j, c));
            put(j, c, first);
        }
    }

    /** LINKS between the places of LINES. */
    private static final class Links {
        int number = 0;
        private final int[] from = new int[LINKS];
        private final int[] to = new int[LINKS];

        void add(int one, int other) {
            if (number < LINKS) {
                from[number] = one;
                to[number] = other;
                number++;
            }
        }

        /** The places to which one comes from a place by LINKS over those alive. */
        int reached(int place, int alive) {
            int reached = 1 << place;
            boolean further = true;
            for (int round = 0; round < BOOKS * LINES && further; round++) {
                int before = reached;
                for (int n = 0; n < number; n++) {
                    int ends = 1 << from[n] | 1 << to[n];
                    if ((reached & ends) != 0) {
                        reached |= ends & alive;
                    }
                }
                further = reached != before;
            }
            return reached;
        }
    }

    /** A GOSSIP: its TEXT, of which LINE it is, and for whom it holds. */
    private static final class Gossip {
        static final int P = COLUMNS;
        static final int W = COLUMNS + 1;
        static final int L = COLUMNS + 2;
        boolean isTold = false;
        int ofBook = NONE;
        int holds = 0;
        int fault = 0;
        int faultAt = 0;
        private int ofLine = NONE;
        private final int[] letters = new int[COLUMNS + 3];
        private final int[] text = new int[TEXT];
        private int length = 0;
        private int at = 0;
        private boolean refused = false;

        void write(Tape tape, int n) {
            isTold = false;
            length = Math.min(n, TEXT);
            for (int sign = 0; sign < length; sign++) {
                text[sign] = tape.byteAt(sign);
            }
        }

        /** Finds the first FAULT, if there is one. */
        void read() {
            start();
            anyOf(0, false);
            if (at < length) {
                fail(1);
            }
        }

        void tellOf(int b, int i) {
            isTold = true;
            ofBook = b;
            ofLine = i;
            holds = 0;
        }

        boolean isOf(int b, int i) {
            return isTold && ofBook == b && ofLine == i;
        }

        /** Notes whether it holds for the PERSON of some letters. */
        void judge(int[] told) {
            for (int n = 0; n < letters.length && n < told.length; n++) {
                letters[n] = told[n];
            }
            letters[L] = ofLine;
            start();
            boolean is = anyOf(0, true) && !refused;
            holds = is ? holds | 1 << letters[P] : holds & ~(1 << letters[P]);
        }

        private void start() {
            at = 0;
            fault = 0;
            refused = false;
        }

        /** The next sign; NONE at the end, and behind a FAULT, so that all reading ends there. */
        private int next() {
            return fault == 0 && at < length && at < TEXT ? text[at] : NONE;
        }

        private void fail(int number) {
            if (fault == 0) {
                fault = number;
                faultAt = at;
            }
        }

        private void expect(int sign) {
            if (next() == sign) {
                at++;
            } else {
                fail(1);
            }
        }

        /** Whether one more of ( [ ! may be open; it is stepped over then. */
        private boolean opens(int depth) {
            if (depth >= OPEN) {
                fail(5);
                return false;
            }
            at++;
            return true;
        }

        /** A C. What is not asked is read only: it answers anything and refuses nothing. */
        private boolean anyOf(int depth, boolean asked) {
            boolean is = allOf(depth, asked);
            for (int n = 0; n < TEXT && next() == '|'; n++) {
                at++;
                boolean other = allOf(depth, asked && !is);
                is = is || other;
            }
            return is;
        }

        private boolean allOf(int depth, boolean asked) {
            boolean is = piece(depth, asked);
            for (int n = 0; n < TEXT && next() == '&'; n++) {
                at++;
                boolean other = piece(depth, asked && is);
                is = is && other;
            }
            return is;
        }

        private boolean piece(int depth, boolean asked) {
            if (next() == '!') {
                return opens(depth) && !piece(depth + 1, asked);
            }
            if (next() == '(') {
                boolean is = opens(depth) && anyOf(depth + 1, asked);
                expect(')');
                return is;
            }
            int left = sum(depth, asked);
            int sign = next();
            if (sign != '<' && sign != '>' && sign != '=') {
                fail(1);
                return false;
            }
            at++;
            int right = sum(depth, asked);
            return sign == '<' ? left < right : sign == '>' ? left > right : left == right;
        }

        private int sum(int depth, boolean asked) {
            int value = product(depth, asked);
            for (int n = 0; n < TEXT && (next() == '+' || next() == '-'); n++) {
                int sign = next();
                at++;
                int other = product(depth, asked);
                value = sign == '+' ? value + other : value - other;
            }
            return value;
        }

        private int product(int depth, boolean asked) {
            int value = factor(depth, asked);
            for (int n = 0; n < TEXT && (next() == '*' || next() == '/' || next() == '%'); n++) {
                int sign = next();
                at++;
                int other = factor(depth, asked);
                if (sign == '*') {
                    value = value * other;
                } else if (other == 0) {
                    refused = refused || asked;
                } else {
                    value = sign == '/' ? value / other : value % other;
                }
            }
            return value;
        }

        private int factor(int depth, boolean asked) {
            int sign = next();
            if (sign == '[') {
                int value = opens(depth) ? sum(depth + 1, asked) : 0;
                expect(']');
                return value;
            }
            if (isDigit(sign)) {
                return numeral();
            }
            int letter = letterOf(sign);
            if (letter < 0 || letter >= letters.length) {
                fail(1);
                return 0;
            }
            at++;
            return letters[letter];
        }

        private int numeral() {
            int value = 0;
            for (int digits = 0; digits < 5 && isDigit(next()); digits++) {
                value = 10 * value + next() - '0';
                at++;
            }
            if (isDigit(next())) {
                fail(2);
            }
            return value;
        }

        private static boolean isDigit(int sign) {
            return sign >= '0' && sign <= '9';
        }

        private static int letterOf(int sign) {
            switch (sign) {
                case 'a':
                case 'b':
                case 'c':
                case 'd':
                    return sign - 'a';
                case 'p':
                    return P;
                case 'w':
                    return W;
                case 'l':
                    return L;
                default:
                    return NONE;
            }
        }
    }

    /** The LINES of one BOOK and who FITS them: GIVINGS and what follows from them. */
    private static final class Matching {
        int lines = 0;
        int live = 0;
        /** TOO FEW, and whom each LINE MAY be, after weigh(). */
        int lacking = 0;
        int found = 0;
        final int[] laid = new int[LINES];
        final int[] fit = new int[LINES];
        final int[] may = new int[LINES];
        private final int[] joint = new int[1 << LINES];
        private final long[] ways = new long[1 << LINES];
        private final int[] left = new int[LINES];

        /**
         * There is a GIVING just if no set of LINES has fewer PEOPLE than LINES; then a LINE
         * MAY be all that FIT it but those whom a set without it, of as many PEOPLE as LINES,
         * needs for itself.
         */
        void weigh() {
            lacking = 0;
            for (int i = 0; i < LINES; i++) {
                may[i] = fit[i];
            }
            for (int top = 0; top < lines; top++) {
                if ((live >> top & 1) == 1) {
                    for (int rest = 0; rest < 1 << top; rest++) {
                        joint[rest | 1 << top] = joint[rest] | fit[top];
                        weighSet(rest | 1 << top);
                    }
                }
            }
            for (int i = 0; i < LINES && lacking != 0; i++) {
                may[i] = 0;
            }
        }

        private void weighSet(int set) {
            if ((set & ~live) != 0) {
                return;
            }
            int spare = Integer.bitCount(joint[set]) - Integer.bitCount(set);
            if (spare < 0 && (lacking == 0 || Integer.bitCount(set) < Integer.bitCount(lacking))) {
                lacking = set;
            }
            for (int i = 0; i < lines && spare == 0; i++) {
                if ((set >> i & 1) == 0) {
                    may[i] &= ~joint[set];
                }
            }
        }

        /** How many GIVINGS there are: one PERSON after the other is given to a LINE or to none. */
        long number() {
            int sets = 1 << lines;
            for (int set = 0; set < sets; set++) {
                ways[set] = 0;
            }
            ways[0] = 1;
            for (int p = 0; p < PEOPLE; p++) {
                // from the fullest set down, so that no PERSON is given twice
                for (int set = sets - 1; set >= 0; set--) {
                    if (ways[set] != 0) {
                        giveTo(set, p);
                    }
                }
            }
            return ways[live];
        }

        private void giveTo(int set, int p) {
            for (int i = 0; i < lines; i++) {
                if ((set >> i & 1) == 0 && (fit[i] >> p & 1) == 1) {
                    ways[set | 1 << i] += ways[set];
                }
            }
        }

        /** The PERSON of a LINE in THE LEAST GIVING; NONE if there is none. */
        int least(int line) {
            int person = NONE;
            for (int i = 0; i <= line && i < lines; i++) {
                if ((live >> i & 1) == 1) {
                    weigh();
                    person = lowest(may[i]);
                    fit[i] = person == NONE ? 0 : 1 << person;
                }
            }
            return person;
        }

        /** STEP BY STEP: how many ROUNDS. */
        int stepByStep() {
            found = 0;
            for (int i = 0; i < LINES; i++) {
                left[i] = fit[i];
            }
            int rounds = 0;
            boolean further = true;
            // each ROUND that counts finds a LINE
            for (int round = 0; round <= LINES && further; round++) {
                further = findSome();
                if (further) {
                    rounds++;
                }
            }
            return rounds;
        }

        /** A ROUND: whether it changes anything. */
        private boolean findSome() {
            int once = 0;
            int twice = 0;
            int now = 0;
            for (int i = 0; i < lines; i++) {
                if ((found >> i & 1) == 0 && Integer.bitCount(left[i]) == 1) {
                    now |= 1 << i;
                    twice |= once & left[i];
                    once |= left[i];
                }
            }
            for (int i = 0; i < lines; i++) {
                // who was FOUND for this LINE alone stays with it
                boolean stays = (now >> i & 1) == 1 && (twice & left[i]) == 0;
                if (!stays) {
                    left[i] &= ~once;
                }
            }
            found |= now;
            return now != 0;
        }

        int left(int i) {
            return within(i, 0, LINES - 1) ? left[i] : 0;
        }
    }

    /** QUESTIONS: how many are always enough to find one of some PEOPLE, no two of whom are alike. */
    private static final class Asking {
        private final int[] splits = new int[COLUMNS * NODES];
        private int splitCount = 0;
        private final int[] sizes = new int[PEOPLE + 1];
        /** For each set of PEOPLE the time, the least and the most that may be needed, 5 bits each. */
        private int[] bounds = new int[1];
        private int time = 1;

        /** The bounds hold as long as the TREES stay as they are. */
        void forget() {
            time++;
        }

        /** Tells by which sets the QUESTIONS split those who are sought; all that split alike count once. */
        void prepare(Column[] columns, int sought) {
            makeRoom(sought);
            splitCount = 0;
            int first = 1 << Math.max(lowest(sought), 0);
            for (int c = 0; c < COLUMNS && c < columns.length; c++) {
                for (int node = 0; node < NODES; node++) {
                    int yes = columns[c].whoBelow(node) & sought;
                    addSplit((yes & first) == 0 ? sought & ~yes : yes, sought);
                }
            }
        }

        private void makeRoom(int sought) {
            int room = bounds.length;
            for (int n = 0; n < PEOPLE && room <= sought; n++) {
                room = 2 * room;
            }
            if (room > bounds.length) {
                bounds = new int[room];
            }
        }

        private void addSplit(int split, int sought) {
            boolean is = split == sought;
            for (int s = 0; s < splitCount && !is; s++) {
                is = splits[s] == split;
            }
            if (!is && splitCount < COLUMNS * NODES) {
                splits[splitCount] = split;
                splitCount++;
            }
        }

        int fewestFor(int sought) {
            int n = 0;
            for (int tried = 0; tried < PEOPLE && !areEnough(sought, n); tried++) {
                n++;
            }
            return n;
        }

        /** Whether n QUESTIONS are enough if the first one tells some PEOPLE from the others. */
        boolean isFirst(int who, int told, int n) {
            return areEnoughBy(who, told, n);
        }

        private boolean areEnoughBy(int who, int told, int n) {
            int yes = who & told;
            int no = who & ~told;
            return yes != 0 && no != 0 && n > 0 && areEnough(yes, n - 1) && areEnough(no, n - 1);
        }

        private boolean areEnough(int who, int n) {
            if (Integer.bitCount(who) <= 1) {
                return true;
            }
            if (n <= 0 || !within(who, 0, bounds.length - 1)) {
                return false;
            }
            if (bounds[who] >> 10 != time) {
                keep(who, atLeast(who), Integer.bitCount(who) - 1);
            }
            int least = bounds[who] >> 5 & 31;
            int most = bounds[who] & 31;
            if (n < least || n >= most) {
                return n >= most;
            }
            boolean are = false;
            for (int s = 0; s < splitCount && !are; s++) {
                are = areEnoughBy(who, splits[s], n);
            }
            keep(who, are ? least : n + 1, are ? n : most);
            return are;
        }

        private void keep(int who, int least, int most) {
            bounds[who] = time << 10 | least << 5 | most;
        }

        /** Each QUESTION takes away, if the more remain, no more than its lesser side, and no more than half. */
        private int atLeast(int who) {
            int all = Integer.bitCount(who);
            for (int size = 0; size <= PEOPLE; size++) {
                sizes[size] = 0;
            }
            for (int s = 0; s < splitCount; s++) {
                int yes = Integer.bitCount(who & splits[s]);
                sizes[Math.min(yes, all - yes)]++;
            }
            int asked = 0;
            int remain = all;
            for (int size = PEOPLE; size > 0; size--) {
                for (int n = 0; n < sizes[size] && remain > 1; n++) {
                    remain -= Math.min(size, remain / 2);
                    asked++;
                }
            }
            return asked;
        }
    }

    /** BLURRING: what LINES would show by each LEVEL, and the row of LEVELS of the least LOSS. */
    private static final class Blurs {
        private static final int ROWS = LEVELS * LEVELS * LEVELS * LEVELS;
        int least = NONE;
        int leastRow = 0;
        int leastCut = 0;
        private final int[][] who = new int[COLUMNS][LEVELS * LINES];
        private final int[][] losses = new int[COLUMNS][LEVELS * LINES];
        private final int[] tops = new int[COLUMNS];
        private final int[] levels = new int[COLUMNS];

        void clear() {
            for (int c = 0; c < COLUMNS; c++) {
                tops[c] = 0;
            }
        }

        void put(int c, int level, int i, int fit, int loss) {
            if (isColumn(c) && isLevel(level) && within(i, 0, LINES - 1)) {
                who[c][LINES * level + i] = fit;
                losses[c][LINES * level + i] = loss;
            }
        }

        /** Notes that a LEVEL of a COLUMN shows another NODE than the one before it. */
        void raiseTop(int c, int level) {
            if (isColumn(c)) {
                tops[c] = Math.max(tops[c], level);
            }
        }

        /** The LEVEL of a COLUMN in a row: COLUMN 0 counts most. */
        static int level(int row, int c) {
            int rest = row;
            for (int n = COLUMNS - 1; n > c; n--) {
                rest = rest / LEVELS;
            }
            return rest % LEVELS;
        }

        void find(int lines, int k, int price) {
            least = NONE;
            for (int row = 0; row < ROWS; row++) {
                boolean isNew = true;
                for (int c = 0; c < COLUMNS; c++) {
                    levels[c] = level(row, c);
                    isNew = isNew && levels[c] <= tops[c];
                }
                // a LEVEL above the one that shows ALL everywhere does the same in a higher row
                if (isNew) {
                    tryRow(row, Math.min(lines, LINES), k, price);
                }
            }
        }

        private void tryRow(int row, int lines, int k, int price) {
            int loss = 0;
            int cut = 0;
            for (int i = 0; i < lines; i++) {
                if (Integer.bitCount(whoFits(i)) >= k) {
                    loss += lossOf(i);
                } else {
                    loss += price;
                    cut++;
                }
            }
            if (least == NONE || loss < least) {
                least = loss;
                leastRow = row;
                leastCut = cut;
            }
        }

        private int whoFits(int i) {
            int fit = ~0;
            for (int c = 0; c < COLUMNS; c++) {
                fit &= who[c][LINES * levels[c] + i];
            }
            return fit;
        }

        private int lossOf(int i) {
            int loss = 0;
            for (int c = 0; c < COLUMNS; c++) {
                loss += losses[c][LINES * levels[c] + i];
            }
            return loss;
        }
    }
}
