import java.util.Arrays;
import java.util.Random;

/** Makes long runs of calls, always the same ones, and compares each answer with Plain's. */
public final class ComparedTest {
    private static final int RUNS = 160;
    private static int wrong = 0;
    private static long compared = 0;

    private final Random random;
    private final TwoFit x = new TwoFit();
    private final Plain y = new Plain();
    private final StringBuilder told = new StringBuilder();
    private final int values;
    private final boolean isWild;
    private int calls = 0;

    private ComparedTest(int seed) {
        isWild = seed % 2 == 0;
        random = new Random(seed);
        values = 1 + random.nextInt(seed % 3 == 0 ? 16 : 5);
    }

    public static void main(String[] args) {
        int runs = args.length > 0 ? Integer.parseInt(args[0]) : RUNS;
        int from = args.length > 1 ? Integer.parseInt(args[1]) : 1;
        for (int seed = from; seed < from + runs && wrong < 5; seed++) {
            new ComparedTest(seed).run();
        }
        System.out.println(compared + " answers compared, " + wrong + " unlike");
        if (wrong != 0) {
            System.exit(1);
        }
    }

    private int n(int bound) {
        return random.nextInt(bound);
    }

    /** Mostly 0 to bound - 1, now and then beyond. */
    private int some(int bound) {
        if (n(40) == 0) {
            int[] odd = {-1, bound, bound + 1, -2, Integer.MIN_VALUE, Integer.MAX_VALUE};
            return odd[n(odd.length)];
        }
        return n(Math.max(1, bound));
    }

    private void same(String call, long got, long due) {
        calls++;
        compared++;
        told.append(call).append(" = ").append(got).append('\n');
        if (got != due) {
            wrong++;
            System.out.println(told);
            System.out.println("the last one: due is " + due);
        }
    }

    private static String call(String name, Object... args) {
        return name + Arrays.toString(args).replace('[', '(').replace(']', ')');
    }

    private static long of(boolean is) {
        return is ? 1 : 0;
    }

    private void run() {
        int before = wrong;
        for (int i = 0; i < 25 && isWild; i++) {
            upper();
        }
        if (!isWild) {
            wellGrownTrees();
        }
        int people = 1 + n(8) + (n(4) == 0 ? 8 : 0);
        for (int i = 0; i < people; i++) {
            person();
        }
        while (calls < 500 && wrong == before) {
            step(calls < 60 ? n(16) : n(40));
        }
    }

    private void step(int kind) {
        switch (kind) {
            case 0: if (n(isWild ? 3 : 25) == 0) upper(); break;
            case 1: if (n(3) == 0) weight(); break;
            case 2: if (n(3) == 0) person(); break;
            case 3: if (n(2) == 0) wish(); break;
            case 4: feedNumbers(); break;
            case 5: case 6: case 7: book(); break;
            case 8: if (n(5) == 0) cut(); break;
            case 9: if (n(2) == 0) swap(); break;
            case 10: if (n(3) == 0) show(); break;
            case 11: case 12: if (n(2) == 0) link(); break;
            case 13: case 14: gossip(); break;
            case 15: small(); break;
            default: ask(kind); break;
        }
    }

    private void wellGrownTrees() {
        for (int c = 0; c < 4; c++) {
            int wide = 2 + n(3);
            for (int value = 0; value < 16; value++) {
                upper(c, value, 16 + value / wide);
            }
            for (int node = 16; node < 24; node++) {
                upper(c, node, 24 + (node - 16) / wide);
            }
        }
    }

    private void upper() {
        int node = some(n(3) == 0 ? 32 : 20);
        int up = n(8) == 0 ? -1 : n(10) == 0 ? some(33) : 16 + n(n(2) == 0 ? 16 : 6);
        upper(some(4), node, up);
    }

    private void upper(int c, int node, int up) {
        same(call("upper", c, node, up), of(x.upper(c, node, up)), of(y.upper(c, node, up)));
    }

    private void weight() {
        int c = some(4);
        int w = some(100);
        same(call("weight", c, w), of(x.weight(c, w)), of(y.weight(c, w)));
    }

    private void person() {
        int a = some(values);
        int b = some(values);
        int c = some(Math.min(values, 3));
        int d = some(Math.min(values, 2));
        same(call("person", a, b, c, d), x.person(a, b, c, d), y.person(a, b, c, d));
    }

    private void wish() {
        int p = some(y.people.size());
        int w = n(3) == 0 ? some(17) : n(4);
        same(call("wish", p, w), of(x.wish(p, w)), of(y.wish(p, w)));
    }

    private void feed(int... bytes) {
        int[] padded = Arrays.copyOf(bytes, (bytes.length + 19) / 20 * 20);
        for (int at = 0; at < padded.length; at += 20) {
            int[] f = new int[5];
            for (int i = 0; i < 20; i++) {
                f[i / 4] = f[i / 4] << 8 | padded[at + i];
            }
            same(call("feed", f[0], f[1], f[2], f[3], f[4]), x.feed(f[0], f[1], f[2], f[3], f[4]), y.feed(f));
        }
    }

    private void feedNumbers() {
        int[] f = {n(33), n(33), n(33), n(33), random.nextInt()};
        same(call("feed", f[0], f[1], f[2], f[3], f[4]), x.feed(f[0], f[1], f[2], f[3], f[4]), y.feed(f));
    }

    private void clearTape() {
        if (y.tape.size() > 0 && y.books.size() > 0) {
            int b = n(y.books.size());
            same(call("check", b, 0, 0), x.check(b, 0, 0), y.check(b, 0, 0));
        }
    }

    private int feedPeople() {
        clearTape();
        int[] bytes = new int[1 + n(n(3) == 0 ? 8 : 4)];
        for (int i = 0; i < bytes.length; i++) {
            bytes[i] = n(Math.max(1, y.people.size()));
            for (int j = 0; j < i && n(60) != 0; j++) {
                if (bytes[j] == bytes[i]) {
                    bytes[i] = (bytes[i] + 1) % Math.max(1, y.people.size());
                    j = -1;
                    if (i >= y.people.size()) {
                        break;
                    }
                }
            }
        }
        feed(bytes);
        return n(30) == 0 ? some(12) : bytes.length;
    }

    private void book() {
        if (y.books.size() == 4 && n(20) != 0) {
            return;
        }
        int m = feedPeople();
        int a = some(n(2) == 0 ? 5 : 3);
        int b = some(n(2) == 0 ? 5 : 3);
        int c = some(n(2) == 0 ? 5 : 3);
        int d = some(n(2) == 0 ? 5 : 3);
        same(call("book", m, a, b, c, d), x.book(m, a, b, c, d), y.book(m, a, b, c, d));
    }

    private int aBook() {
        return some(y.books.size());
    }

    private int aLine(int b) {
        return some(y.isBook(b) ? y.books.get(b).lines.size() : 8);
    }

    private void cut() {
        int b = aBook();
        int i = aLine(b);
        same(call("cut", b, i), of(x.cut(b, i)), of(y.cut(b, i)));
    }

    private void swap() {
        int b = aBook();
        int i = aLine(b);
        int j = aLine(b);
        int c = some(4);
        same(call("swap", b, i, j, c), of(x.swap(b, i, j, c)), of(y.swap(b, i, j, c)));
    }

    private void show() {
        int b = aBook();
        boolean is = n(3) != 0;
        same(call("show", b, is), of(x.show(b, is)), of(y.show(b, is)));
    }

    private void link() {
        int a = aBook();
        int i = aLine(a);
        int b = aBook();
        int j = aLine(b);
        for (int tries = n(15) == 0 ? 45 : 1; tries > 0; tries--) {
            same(call("link", a, i, b, j), x.link(a, i, b, j), y.link(a, i, b, j));
        }
    }

    private void gossip() {
        StringBuilder text = new StringBuilder();
        either(text, 0);
        if (n(6) == 0) {
            int at = n(text.length());
            text.setCharAt(at, "()[]!&|<>=+-*/%0123456789abcdpwlx \u00ff".charAt(n(35)));
        }
        if (n(15) == 0) {
            text.setLength(1 + n(text.length()));
        }
        if (text.length() > 100) {
            text.setLength(100);
        }
        clearTape();
        int[] bytes = new int[text.length()];
        for (int i = 0; i < bytes.length; i++) {
            bytes[i] = text.charAt(i);
        }
        told.append("// ").append(text).append('\n');
        feed(bytes);
        int g = some(8);
        int b = aBook();
        int i = aLine(b);
        int m = n(30) == 0 ? some(102) : bytes.length;
        same(call("gossip", g, b, i, m), x.gossip(g, b, i, m), y.gossip(g, b, i, m));
    }

    private void either(StringBuilder text, int depth) {
        both(text, depth);
        while (n(3) == 0) {
            text.append('|');
            both(text, depth);
        }
    }

    private void both(StringBuilder text, int depth) {
        piece(text, depth);
        while (n(4) == 0) {
            text.append('&');
            piece(text, depth);
        }
    }

    private void piece(StringBuilder text, int depth) {
        int kind = depth > 7 ? 5 : n(7);
        if (kind == 0) {
            text.append('!');
            piece(text, depth + 1);
        } else if (kind == 1) {
            text.append('(');
            either(text, depth + 1);
            text.append(')');
        } else {
            sum(text, depth);
            text.append("<>=<>".charAt(n(5)));
            sum(text, depth);
        }
    }

    private void sum(StringBuilder text, int depth) {
        product(text, depth);
        while (n(4) == 0) {
            text.append("+-".charAt(n(2)));
            product(text, depth);
        }
    }

    private void product(StringBuilder text, int depth) {
        factor(text, depth);
        while (n(5) == 0) {
            text.append("*/%".charAt(n(3)));
            factor(text, depth);
        }
    }

    private void factor(StringBuilder text, int depth) {
        int kind = n(8);
        if (kind == 0 && depth < 8) {
            text.append('[');
            sum(text, depth + 1);
            text.append(']');
        } else if (kind < 4) {
            text.append(n(8) == 0 ? n(120000) : n(6));
        } else {
            text.append("abcdpwl".charAt(n(7)));
        }
    }

    private void small() {
        int c = some(4);
        int value = some(16);
        int levels = some(5);
        same(call("blurred", c, value, levels), x.blurred(c, value, levels), y.blurred(c, value, levels));
        int node = some(33);
        same(call("size", c, node), x.size(c, node), y.size(c, node));
        int what = n(52) - 3;
        same(call("count", what), x.count(what), y.count(what));
        int b = aBook();
        int i = aLine(b);
        int column = some(5);
        same(call("line", b, i, column), x.line(b, i, column), y.line(b, i, column));
    }

    private void ask(int kind) {
        int b = aBook();
        int i = aLine(b);
        int p = some(y.people.size());
        int known = n(3) == 0 ? 255 : n(4) == 0 ? 0 : some(256);
        int k = n(4) == 0 ? some(17) : 1 + n(4);
        if (kind < 20) {
            askPlace(b, i, known);
        } else if (y.isSmall(b)) {
            askGivings(kind, b, i, p, known, k);
        }
    }

    private void askPlace(int b, int i, int known) {
        same(call("fits", b, i, known), x.fits(b, i, known), y.fits(b, i, known));
        same(call("loss", b), x.loss(b), y.loss(b));
        int what = n(6) == 0 ? some(10) : n(3) == 0 ? 8 : n(3) == 0 ? -1 : i;
        same(call("steps", b, known, what), x.steps(b, known, what), y.steps(b, known, what));
        same(call("tooFew", b, known), x.tooFew(b, known), y.tooFew(b, known));
        for (int w = -1; w < 4; w++) {
            same(call("questions", b, i, known, w), x.questions(b, i, known, w), y.questions(b, i, known, w));
        }
    }

    private void askGivings(int kind, int b, int i, int p, int known, int k) {
        int what = some(4);
        switch (kind) {
            case 20: case 21: same(call("givings", b, known), x.givings(b, known), y.givings(b, known)); break;
            case 22: case 23: case 24:
                same(call("odds", b, i, p, known, 0), x.odds(b, i, p, known, 0), y.odds(b, i, p, known, 0));
                same(call("odds", b, i, p, known, what), x.odds(b, i, p, known, what), y.odds(b, i, p, known, what));
                break;
            case 25: case 26: same(call("mustBe", b, i, p, known), x.mustBe(b, i, p, known), y.mustBe(b, i, p, known)); break;
            case 27: case 28: same(call("giving", b, i, known), x.giving(b, i, known), y.giving(b, i, known)); break;
            case 29: case 30: same(call("safe", b, k, known), x.safe(b, k, known), y.safe(b, k, known)); break;
            case 31: same(call("fewest", b, i, what), x.fewest(b, i, what), y.fewest(b, i, what)); break;
            case 32: case 33: same(call("linesOf", b, p, known), x.linesOf(b, p, known), y.linesOf(b, p, known)); break;
            case 34: same(call("bestSwap", b, k, what), x.bestSwap(b, k, what), y.bestSwap(b, k, what)); break;
            case 35: case 36: together(k, what); break;
            case 37: blurring(k); break;
            default: check(b, i); break;
        }
    }

    private void together(int k, int what) {
        for (int b = 0; b < y.books.size(); b++) {
            if (!y.isSmall(b)) {
                return;
            }
        }
        same(call("together", k, what), x.together(k, what), y.together(k, what));
    }

    private void blurring(int k) {
        int m = feedPeople();
        int price = n(2) == 0 ? n(20) : n(3) == 0 ? some(10000) : n(300);
        int what = n(8) == 0 ? some(6) : n(6) - 1;
        same(call("blurring", m, k, price, what), x.blurring(m, k, price, what), y.blurring(m, k, price, what));
    }

    private void check(int b, int i) {
        clearTape();
        int[] f = new int[5];
        for (int c = 0; c < 4; c++) {
            f[c] = n(6) == 0 ? n(33) : Math.max(0, y.line(b, i, c));
        }
        if (n(10) != 0) {
            same(call("feed", f[0], f[1], f[2], f[3], f[4]), x.feed(f[0], f[1], f[2], f[3], f[4]), y.feed(f));
        }
        int m = some(5);
        same(call("check", b, i, m), x.check(b, i, m), y.check(b, i, m));
    }
}
