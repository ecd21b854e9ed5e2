import java.util.ArrayList;
import java.util.List;

/**
 * What the tests of the boundary cases share: towns, answers that are due, and calls that may
 * change nothing. These are made on a new town for each part of all that can be seen of it, as
 * no object is used for more than 512 calls.
 */
abstract class Edges {
    static final int NONE = -1;
    static final int NO = 0;
    static final int YES = 1;
    static final int[] EMPTY = {};
    /** Three PEOPLE of each town; as a TEXT it has a FAULT, as numbers it is wrong. */
    static final int[] TAPE = {0, 1, 2};
    private static final int PARTS = 7;

    private static int looked = 0;
    private static int wrong = 0;

    interface Call {
        long on(TwoFit x);
    }

    interface Town {
        TwoFit made();
    }

    static long of(boolean is) {
        return is ? YES : NO;
    }

    // ---- what is due

    static void due(String what, long got, long want) {
        looked++;
        if (got != want) {
            wrong++;
            System.out.println(what + " answered " + got + ", due is " + want);
        }
    }

    static void due(String what, boolean got, boolean want) {
        due(what, of(got), of(want));
    }

    /** A call answers what is due, and nothing changes, the tape neither. */
    static void keeps(String what, Town town, int[] tape, Call call, long want) {
        compare(what, town, tape, tape, call, want);
    }

    /** A call answers what is due and empties the tape; nothing else changes. */
    static void empties(String what, Town town, int[] tape, Call call, long want) {
        compare(what, town, tape, EMPTY, call, want);
    }

    private static void compare(String what, Town town, int[] before, int[] after, Call call, long want) {
        for (int part = 0; part < PARTS; part++) {
            TwoFit x = town.made();
            feed(x, before);
            due(what, call.on(x), want);
            TwoFit y = town.made();
            feed(y, after);
            if (!seen(x, part).equals(seen(y, part))) {
                wrong++;
                System.out.println(what + " changed something: part " + part);
            }
        }
    }

    static void end() {
        System.out.println(looked + " answers looked at, " + wrong + " wrong");
        if (wrong != 0) {
            System.exit(1);
        }
    }

    /** Past the least and the greatest of an argument. */
    static int[] beyond(int least, int most) {
        return new int[] {least - 1, most + 1, Integer.MIN_VALUE, Integer.MAX_VALUE};
    }

    static int bits(int... some) {
        int set = 0;
        for (int n : some) {
            set |= 1 << n;
        }
        return set;
    }

    // ---- all that can be seen of a town

    static boolean alike(TwoFit x, TwoFit y, int part) {
        return seen(x, part).equals(seen(y, part));
    }

    static int parts() {
        return PARTS;
    }

    private static List<Long> seen(TwoFit x, int part) {
        List<Long> all = new ArrayList<>();
        switch (part) {
            case 0: seeCounts(x, all); break;
            case 1: seeColumns(x, all, 0); break;
            case 2: seeColumns(x, all, 2); break;
            case 3: seeFits(x, all); break;
            case 4: seeTapeAsPeople(x, all); break;
            case 5: seeTapeAsText(x, all); break;
            default: seeTapeAsNumbers(x, all); break;
        }
        return all;
    }

    private static void seeCounts(TwoFit x, List<Long> all) {
        for (int what = 0; what < 46; what++) {
            all.add((long) x.count(what));
        }
        for (int b = 0; b < 4; b++) {
            for (int i = 0; i < 8; i++) {
                for (int c = 0; c < 5; c++) {
                    all.add((long) x.line(b, i, c));
                }
            }
        }
    }

    private static void seeColumns(TwoFit x, List<Long> all, int from) {
        for (int c = from; c < from + 2; c++) {
            for (int node = 0; node <= 32; node++) {
                all.add((long) x.size(c, node));
            }
            for (int value = 0; value < 16; value++) {
                for (int n = 0; n < 5; n++) {
                    all.add((long) x.blurred(c, value, n));
                }
            }
        }
    }

    private static void seeFits(TwoFit x, List<Long> all) {
        for (int b = 0; b < 4; b++) {
            for (int i = 0; i < 8; i++) {
                for (int known = 128; known > 0; known /= 2) {
                    all.add((long) x.fits(b, i, known));
                }
                all.add((long) x.fits(b, i, 0));
            }
        }
    }

    private static void seeTapeAsPeople(TwoFit x, List<Long> all) {
        int b = x.book(3, 0, 1, 0, 1);
        all.add((long) b);
        for (int i = 0; i < 3; i++) {
            all.add((long) x.line(b, i, 4));
        }
    }

    private static void seeTapeAsText(TwoFit x, List<Long> all) {
        int n = Math.min(x.count(4), 100);
        for (int b = 0; b < 4; b++) {
            for (int i = 0; i < 8; i++) {
                all.add((long) x.gossip(7, b, i, n));
                all.add((long) x.fits(b, i, 128));
            }
        }
    }

    private static void seeTapeAsNumbers(TwoFit x, List<Long> all) {
        for (int b = 0; b < 4; b++) {
            for (int i = 0; i < 8; i++) {
                all.add((long) x.check(b, i, 4));
            }
        }
    }

    // ---- ways to say things shortly

    static void feed(TwoFit x, int... bytes) {
        for (int from = 0; from < bytes.length; from += 20) {
            int[] f = new int[5];
            for (int i = 0; i < 20; i++) {
                f[i / 4] = f[i / 4] << 8 | (from + i < bytes.length ? bytes[from + i] : 0);
            }
            x.feed(f[0], f[1], f[2], f[3], f[4]);
        }
    }

    static int[] bytes(String text) {
        int[] bytes = new int[text.length()];
        for (int at = 0; at < bytes.length; at++) {
            bytes[at] = text.charAt(at);
        }
        return bytes;
    }

    static int tell(TwoFit x, int g, int b, int i, String text) {
        feed(x, bytes(text));
        return x.gossip(g, b, i, text.length());
    }

    static int book(TwoFit x, int l0, int l1, int l2, int l3, int... people) {
        feed(x, people);
        return x.book(people.length, l0, l1, l2, l3);
    }

    // ---- towns

    /** PEOPLE 0 to n - 1 with their number in COLUMN 0 and 0 in the others, no TREES. */
    static TwoFit row(int n) {
        TwoFit x = new TwoFit();
        for (int p = 0; p < n; p++) {
            x.person(p, 0, 0, 0);
        }
        return x;
    }

    /** BOOK 0 of the first LINES of such a row: ALL in COLUMN 0, so that all n FIT each LINE. */
    static TwoFit wide(int n, int lines) {
        TwoFit x = row(n);
        int[] people = new int[lines];
        for (int i = 0; i < lines; i++) {
            people[i] = i;
        }
        book(x, 1, 0, 0, 0, people);
        return x;
    }

    /**
     * Something of everything. BOOK 0 (LINE 3 is CUT) shows 16 18 0 ALL for 0 and 1, 17 18 0 ALL
     * for 2; BOOK 1 shows 20 31 ALL ALL for 3, 0 and 4 and ALL for 5; BOOK 2 is not SHOWN.
     */
    static TwoFit town() {
        TwoFit x = new TwoFit();
        x.upper(0, 0, 16);
        x.upper(0, 1, 16);
        x.upper(0, 2, 17);
        x.upper(0, 3, 17);
        x.upper(0, 16, 20);
        x.upper(0, 17, 20);
        x.upper(1, 4, 18);
        x.upper(1, 5, 18);
        x.upper(1, 18, 31);
        x.person(0, 4, 0, 0);
        x.person(1, 5, 0, 1);
        x.person(2, 4, 0, 2);
        x.person(3, 5, 0, 3);
        x.person(0, 5, 1, 4);
        x.person(9, 9, 9, 9);
        x.wish(1, 2);
        x.wish(4, 3);
        x.weight(0, 5);
        x.weight(3, 0);
        book(x, 1, 1, 0, 1, 0, 1, 2, 3);
        book(x, 2, 2, 1, 1, 3, 0, 5, 4);
        book(x, 0, 0, 0, 0, 1, 2);
        x.cut(0, 3);
        x.show(2, false);
        x.link(0, 0, 1, 1);
        x.link(0, 1, 2, 0);
        tell(x, 0, 0, 0, "a<1");
        tell(x, 5, 1, 2, "w>0|p=3");
        return x;
    }

    /** Everything full but the tape: 16 PEOPLE, 4 BOOKS of 8 LINES, 40 LINKS, 8 GOSSIPS. */
    static TwoFit full() {
        TwoFit x = new TwoFit();
        for (int value = 0; value < 16; value++) {
            x.upper(0, value, 16 + value / 2);
        }
        for (int node = 16; node < 24; node++) {
            x.upper(0, node, 24 + (node - 16) / 2);
        }
        for (int p = 0; p < 16; p++) {
            x.person(p, p / 2, p / 4, p % 3);
        }
        x.wish(15, 16);
        x.weight(3, 99);
        book(x, 2, 1, 1, 1, 0, 1, 2, 3, 4, 5, 6, 7);
        book(x, 2, 1, 1, 1, 8, 9, 10, 11, 12, 13, 14, 15);
        book(x, 1, 1, 1, 1, 0, 2, 4, 6, 8, 10, 12, 14);
        book(x, 0, 0, 0, 0, 1, 3, 5, 7, 9, 11, 13, 15);
        for (int n = 0; n < 40; n++) {
            x.link(0, n % 8, 2, n % 4);
        }
        for (int g = 0; g < 8; g++) {
            tell(x, g, g % 4, g, "p>l");
        }
        return x;
    }
}
