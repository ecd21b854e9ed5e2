import java.util.ArrayList;
import java.util.HashMap;
import java.util.HashSet;
import java.util.List;
import java.util.Map;
import java.util.Set;
import java.util.TreeSet;

/**
 * The document written down a second time, as plainly as its words go and with no regard to
 * speed, for ComparedTest to compare the class with.
 */
final class Plain {
    static final class Person {
        int[] values;
        int wish;
    }

    static final class Line {
        int owner;
        int[] shows = new int[4];
        boolean cut;
    }

    static final class Book {
        List<Line> lines = new ArrayList<>();
        boolean shown = true;
    }

    static final class Told {
        int book;
        int line;
        Cond text;
    }

    static final class Refused extends RuntimeException {
    }

    static final class Fault extends RuntimeException {
        final int number;
        final int place;

        Fault(int number, int place) {
            this.number = number;
            this.place = place;
        }
    }

    interface Cond {
        boolean holds(Map<Character, Integer> letters);
    }

    interface Expr {
        int value(Map<Character, Integer> letters);
    }

    final int[][] uppers = new int[4][32];
    final int[] weights = {1, 1, 1, 1};
    final List<Person> people = new ArrayList<>();
    final List<Integer> tape = new ArrayList<>();
    final List<Book> books = new ArrayList<>();
    final List<int[]> links = new ArrayList<>();
    final Told[] gossips = new Told[8];

    Plain() {
        for (int[] row : uppers) {
            java.util.Arrays.fill(row, -1);
        }
    }

    static boolean in(int n, int a, int b) {
        return a <= n && n <= b;
    }

    boolean isBook(int b) {
        return in(b, 0, books.size() - 1);
    }

    boolean isLine(int b, int i) {
        return isBook(b) && in(i, 0, books.get(b).lines.size() - 1);
    }

    boolean isCut(int b, int i) {
        return books.get(b).lines.get(i).cut;
    }

    boolean isPerson(int p) {
        return in(p, 0, people.size() - 1);
    }

    boolean upper(int c, int node, int up) {
        if (!in(c, 0, 3) || !in(node, 0, 31) || !(up == -1 || in(up, 16, 31) && up > node)) {
            return false;
        }
        uppers[c][node] = up;
        return true;
    }

    boolean weight(int c, int n) {
        if (!in(c, 0, 3) || !in(n, 0, 99)) {
            return false;
        }
        weights[c] = n;
        return true;
    }

    int person(int a, int b, int c, int d) {
        if (!in(a, 0, 15) || !in(b, 0, 15) || !in(c, 0, 15) || !in(d, 0, 15) || people.size() == 16) {
            return -1;
        }
        Person p = new Person();
        p.values = new int[] {a, b, c, d};
        people.add(p);
        return people.size() - 1;
    }

    boolean wish(int p, int n) {
        if (!isPerson(p) || !in(n, 0, 16)) {
            return false;
        }
        people.get(p).wish = n;
        return true;
    }

    int feed(int... five) {
        if (tape.size() > 180) {
            return -1;
        }
        for (int n : five) {
            tape.add(n >> 24 & 255);
            tape.add(n >> 16 & 255);
            tape.add(n >> 8 & 255);
            tape.add(n & 255);
        }
        return tape.size();
    }

    int blurred(int c, int value, int n) {
        if (!in(c, 0, 3) || !in(value, 0, 15) || !in(n, 0, 4)) {
            return -1;
        }
        if (n == 0) {
            return value;
        }
        int lower = blurred(c, value, n - 1);
        return lower == 32 || uppers[c][lower] == -1 ? 32 : uppers[c][lower];
    }

    boolean isBelow(int c, int value, int node) {
        return node == 32 || value == node || uppers[c][value] != -1 && isBelow(c, uppers[c][value], node);
    }

    int size(int c, int node) {
        if (!in(c, 0, 3) || !in(node, 0, 32)) {
            return -1;
        }
        int n = 0;
        for (int value = 0; value < 16; value++) {
            n += isBelow(c, value, node) ? 1 : 0;
        }
        return n;
    }

    /** The PEOPLE that the tape tells; null if they are not such. */
    List<Integer> tellPeople(int n) {
        List<Integer> told = new ArrayList<>(tape.subList(0, n));
        tape.clear();
        for (int p : told) {
            if (!isPerson(p)) {
                return null;
            }
        }
        return new HashSet<>(told).size() == n ? told : null;
    }

    int book(int n, int... levels) {
        if (!in(n, 1, 8) || books.size() == 4 || tape.size() < n) {
            return -1;
        }
        for (int level : levels) {
            if (!in(level, 0, 4)) {
                return -1;
            }
        }
        List<Integer> told = tellPeople(n);
        if (told == null) {
            return -2;
        }
        Book b = new Book();
        for (int p : told) {
            b.lines.add(lineOf(p, levels));
        }
        books.add(b);
        return books.size() - 1;
    }

    Line lineOf(int p, int[] levels) {
        Line line = new Line();
        line.owner = p;
        for (int c = 0; c < 4; c++) {
            line.shows[c] = blurred(c, people.get(p).values[c], levels[c]);
        }
        return line;
    }

    boolean cut(int b, int i) {
        if (!isLine(b, i) || isCut(b, i)) {
            return false;
        }
        books.get(b).lines.get(i).cut = true;
        return true;
    }

    boolean swap(int b, int i, int j, int c) {
        if (!isLine(b, i) || !isLine(b, j) || i == j || isCut(b, i) || isCut(b, j) || !in(c, 0, 3)) {
            return false;
        }
        int[] one = books.get(b).lines.get(i).shows;
        int[] other = books.get(b).lines.get(j).shows;
        if (one[c] == other[c]) {
            return false;
        }
        int kept = one[c];
        one[c] = other[c];
        other[c] = kept;
        return true;
    }

    boolean show(int b, boolean is) {
        if (!isBook(b) || books.get(b).shown == is) {
            return false;
        }
        books.get(b).shown = is;
        return true;
    }

    int link(int a, int i, int b, int j) {
        if (!isLine(a, i) || !isLine(b, j) || a == b || links.size() == 40) {
            return -1;
        }
        links.add(new int[] {a, i, b, j});
        return links.size();
    }

    int gossip(int g, int b, int i, int n) {
        if (!in(g, 0, 7) || !isLine(b, i) || isCut(b, i) || !in(n, 1, 100) || tape.size() < n) {
            return -1;
        }
        StringBuilder text = new StringBuilder();
        for (int at = 0; at < n; at++) {
            text.append((char) (int) tape.get(at));
        }
        tape.clear();
        Told told = new Told();
        told.book = b;
        told.line = i;
        try {
            told.text = new Parser(text.toString()).whole();
        } catch (Fault f) {
            return -1000 * f.number - f.place;
        }
        gossips[g] = told;
        return 1;
    }

    /** Reads by the grammar, building what is asked later. */
    static final class Parser {
        final String text;
        int at = 0;
        int open = 0;

        Parser(String text) {
            this.text = text;
        }

        char now() {
            return at < text.length() ? text.charAt(at) : 0xFFFF;
        }

        char take(String some) {
            char sign = now();
            if (some.indexOf(sign) < 0) {
                throw new Fault(1, at);
            }
            at++;
            return sign;
        }

        void open(String sign) {
            if (open == 6) {
                throw new Fault(5, at);
            }
            take(sign);
            open++;
        }

        void close(String sign) {
            take(sign);
            open--;
        }

        Cond whole() {
            Cond c = c();
            if (at < text.length()) {
                throw new Fault(1, at);
            }
            return c;
        }

        Cond c() {
            Cond first = part();
            if (now() != '|') {
                return first;
            }
            take("|");
            Cond rest = c();
            return l -> first.holds(l) || rest.holds(l);
        }

        Cond part() {
            Cond first = piece();
            if (now() != '&') {
                return first;
            }
            take("&");
            Cond rest = part();
            return l -> first.holds(l) && rest.holds(l);
        }

        Cond piece() {
            if (now() == '!') {
                open("!");
                Cond inner = piece();
                open--;
                return l -> !inner.holds(l);
            }
            if (now() == '(') {
                open("(");
                Cond inner = c();
                close(")");
                return inner;
            }
            Expr left = e();
            char sign = take("<>=");
            Expr right = e();
            return l -> {
                int x = left.value(l);
                int y = right.value(l);
                return sign == '<' ? x < y : sign == '>' ? x > y : x == y;
            };
        }

        Expr e() {
            Expr all = term();
            while (now() == '+' || now() == '-') {
                char sign = take("+-");
                Expr left = all;
                Expr right = term();
                all = l -> sign == '+' ? left.value(l) + right.value(l) : left.value(l) - right.value(l);
            }
            return all;
        }

        Expr term() {
            Expr all = factor();
            while (now() == '*' || now() == '/' || now() == '%') {
                char sign = take("*/%");
                Expr left = all;
                Expr right = factor();
                all = l -> {
                    int x = left.value(l);
                    int y = right.value(l);
                    if (sign == '*') {
                        return x * y;
                    }
                    if (y == 0) {
                        throw new Refused();
                    }
                    return sign == '/' ? x / y : x % y;
                };
            }
            return all;
        }

        Expr factor() {
            if (now() == '[') {
                open("[");
                Expr inner = e();
                close("]");
                return inner;
            }
            if ("0123456789".indexOf(now()) >= 0) {
                int from = at;
                while ("0123456789".indexOf(now()) >= 0) {
                    if (at - from == 5) {
                        throw new Fault(2, at);
                    }
                    at++;
                }
                int n = Integer.parseInt(text.substring(from, at));
                return l -> n;
            }
            char letter = take("abcdpwl");
            return l -> l.get(letter);
        }
    }

    boolean holds(Told told, int p) {
        Map<Character, Integer> letters = new HashMap<>();
        for (int c = 0; c < 4; c++) {
            letters.put((char) ('a' + c), people.get(p).values[c]);
        }
        letters.put('p', p);
        letters.put('w', people.get(p).wish);
        letters.put('l', told.line);
        try {
            return told.text.holds(letters);
        } catch (Refused r) {
            return false;
        }
    }

    int line(int b, int i, int c) {
        if (!isLine(b, i) || !in(c, 0, 4)) {
            return -1;
        }
        if (c == 4) {
            return books.get(b).lines.get(i).owner;
        }
        return isCut(b, i) ? -2 : books.get(b).lines.get(i).shows[c];
    }

    boolean showsFit(int p, int[] shows) {
        for (int c = 0; c < 4; c++) {
            if (!isBelow(c, people.get(p).values[c], shows[c])) {
                return false;
            }
        }
        return true;
    }

    boolean fitsAlone(int p, int b, int i, int known) {
        if (!showsFit(p, books.get(b).lines.get(i).shows)) {
            return false;
        }
        for (int g = 0; g < 8; g++) {
            Told told = gossips[g];
            if ((known >> g & 1) == 1 && told != null && told.book == b && told.line == i && !holds(told, p)) {
                return false;
            }
        }
        return true;
    }

    void reach(int b, int i, int own, boolean alone, Set<Integer> reached) {
        if (isCut(b, i) || b != own && (alone || !books.get(b).shown) || !reached.add(8 * b + i)) {
            return;
        }
        for (int[] l : links) {
            if (l[0] == b && l[1] == i) {
                reach(l[2], l[3], own, alone, reached);
            }
            if (l[2] == b && l[3] == i) {
                reach(l[0], l[1], own, alone, reached);
            }
        }
    }

    TreeSet<Integer> fitting(int b, int i, int known, boolean alone) {
        Set<Integer> reached = new HashSet<>();
        reach(b, i, b, alone, reached);
        TreeSet<Integer> fit = new TreeSet<>();
        for (int p = 0; p < people.size(); p++) {
            boolean all = true;
            for (int at : reached) {
                all &= fitsAlone(p, at / 8, at % 8, known);
            }
            if (all) {
                fit.add(p);
            }
        }
        return fit;
    }

    static int bits(Iterable<Integer> set) {
        int bits = 0;
        for (int n : set) {
            bits |= 1 << n;
        }
        return bits;
    }

    int fits(int b, int i, int known) {
        if (!isLine(b, i) || !in(known, 0, 255)) {
            return -1;
        }
        return isCut(b, i) ? -2 : bits(fitting(b, i, known, false));
    }

    /** All GIVINGS of a BOOK, the least row first: a PERSON for each LINE, -1 for CUT ones. */
    List<int[]> allGivings(int b, int known, boolean alone) {
        List<TreeSet<Integer>> fits = new ArrayList<>();
        int n = books.get(b).lines.size();
        for (int i = 0; i < n; i++) {
            fits.add(isCut(b, i) ? null : fitting(b, i, known, alone));
        }
        List<int[]> rows = new ArrayList<>();
        give(fits, 0, new int[n], rows);
        return rows;
    }

    static void give(List<TreeSet<Integer>> fits, int i, int[] row, List<int[]> rows) {
        if (i == fits.size()) {
            rows.add(row.clone());
            return;
        }
        if (fits.get(i) == null) {
            row[i] = -1;
            give(fits, i + 1, row, rows);
            return;
        }
        for (int p : fits.get(i)) {
            boolean taken = false;
            for (int j = 0; j < i; j++) {
                taken |= row[j] == p;
            }
            if (!taken) {
                row[i] = p;
                give(fits, i + 1, row, rows);
            }
        }
    }

    /** Whether all GIVINGS can be written down, however they are asked for. */
    boolean isSmall(int b) {
        if (!isBook(b)) {
            return true;
        }
        double product = 1;
        for (int i = 0; i < books.get(b).lines.size(); i++) {
            product *= isCut(b, i) ? 1 : Math.max(1, fitting(b, i, 0, true).size());
        }
        return product < 3000;
    }

    long givings(int b, int known) {
        return !isBook(b) || !in(known, 0, 255) ? -1 : allGivings(b, known, false).size();
    }

    static long through(List<int[]> rows, int i, int p) {
        return rows.stream().filter(row -> row[i] == p).count();
    }

    long odds(int b, int i, int p, int known, int what) {
        if (!isLine(b, i) || !isPerson(p) || !in(known, 0, 255) || !in(what, 0, 1)) {
            return -1;
        }
        List<int[]> rows = allGivings(b, known, false);
        if (isCut(b, i) || rows.isEmpty()) {
            return -2;
        }
        long above = through(rows, i, p);
        long below = rows.size();
        for (long d = below; d > 1; d--) {
            if (above % d == 0 && below % d == 0) {
                above /= d;
                below /= d;
            }
        }
        return what == 0 ? above : below;
    }

    int mustBe(int b, int i, int p, int known) {
        if (!isLine(b, i) || !isPerson(p) || !in(known, 0, 255)) {
            return -1;
        }
        if (isCut(b, i)) {
            return -2;
        }
        List<int[]> rows = allGivings(b, known, false);
        long n = through(rows, i, p);
        return n == 0 ? 0 : n == rows.size() ? 2 : 1;
    }

    int giving(int b, int i, int known) {
        if (!isLine(b, i) || !in(known, 0, 255)) {
            return -1;
        }
        List<int[]> rows = allGivings(b, known, false);
        return isCut(b, i) || rows.isEmpty() ? -2 : rows.get(0)[i];
    }

    int tooFew(int b, int known) {
        if (!isBook(b) || !in(known, 0, 255)) {
            return -1;
        }
        int n = books.get(b).lines.size();
        for (int many = 1; many <= n; many++) {
            for (int set = 0; set < 1 << n; set++) {
                if (Integer.bitCount(set) == many) {
                    Set<Integer> together = new HashSet<>();
                    boolean cut = false;
                    for (int i = 0; i < n; i++) {
                        if ((set >> i & 1) == 1) {
                            cut |= isCut(b, i);
                            together.addAll(fitting(b, i, known, false));
                        }
                    }
                    if (!cut && together.size() < many) {
                        return set;
                    }
                }
            }
        }
        return 0;
    }

    int steps(int b, int known, int what) {
        if (!isBook(b) || !in(known, 0, 255) || !(what == -1 || what == 8 || isLine(b, what))) {
            return -1;
        }
        int n = books.get(b).lines.size();
        List<Set<Integer>> left = new ArrayList<>();
        for (int i = 0; i < n; i++) {
            left.add(isCut(b, i) ? new TreeSet<>() : fitting(b, i, known, false));
        }
        Set<Integer> found = new TreeSet<>();
        int rounds = 0;
        while (true) {
            List<Set<Integer>> then = new ArrayList<>();
            for (Set<Integer> some : left) {
                then.add(new TreeSet<>(some));
            }
            Set<Integer> foundThen = new TreeSet<>(found);
            for (int i = 0; i < n; i++) {
                if (left.get(i).size() == 1) {
                    foundThen.add(i);
                    for (int j = 0; j < n; j++) {
                        if (j != i) {
                            then.get(j).removeAll(left.get(i));
                        }
                    }
                }
            }
            if (then.equals(left) && foundThen.equals(found)) {
                break;
            }
            left = then;
            found = foundThen;
            rounds++;
        }
        if (what == -1) {
            return rounds;
        }
        return what == 8 ? bits(found) : isCut(b, what) ? -2 : bits(left.get(what));
    }

    int safeLines(int b, int k, int known, boolean alone) {
        List<int[]> rows = allGivings(b, known, alone);
        int safe = 0;
        for (int i = 0; i < books.get(b).lines.size(); i++) {
            if (!isCut(b, i)) {
                Set<Integer> may = may(rows, i);
                int wish = people.get(books.get(b).lines.get(i).owner).wish;
                safe |= may.size() >= k && may.size() >= wish ? 1 << i : 0;
            }
        }
        return safe;
    }

    static Set<Integer> may(List<int[]> rows, int i) {
        Set<Integer> may = new TreeSet<>();
        for (int[] row : rows) {
            may.add(row[i]);
        }
        return may;
    }

    int live(int b) {
        int live = 0;
        for (int i = 0; i < books.get(b).lines.size(); i++) {
            live |= isCut(b, i) ? 0 : 1 << i;
        }
        return live;
    }

    int safe(int b, int k, int known) {
        return !isBook(b) || !in(k, 1, 16) || !in(known, 0, 255) ? -1 : safeLines(b, k, known, false);
    }

    int fewest(int b, int i, int what) {
        if (!isLine(b, i) || !in(what, 0, 2)) {
            return -1;
        }
        if (isCut(b, i)) {
            return -2;
        }
        for (int many = 0; many <= 8; many++) {
            for (int set = 0; set < 256; set++) {
                boolean usable = Integer.bitCount(set) == many;
                for (int g = 0; g < 8; g++) {
                    usable &= (set >> g & 1) == 0 || gossips[g] != null && gossips[g].book == b;
                }
                if (usable) {
                    Set<Integer> may = may(allGivings(b, set, false), i);
                    if (may.size() == 1) {
                        return what == 0 ? many : what == 1 ? set : may.iterator().next();
                    }
                }
            }
        }
        return -2;
    }

    int askedFor(Set<Integer> some, Map<Set<Integer>, Integer> kept) {
        if (some.size() == 1) {
            return 0;
        }
        Integer known = kept.get(some);
        if (known != null) {
            return known;
        }
        int best = 99;
        for (int c = 0; c < 4; c++) {
            for (int node = 0; node < 32; node++) {
                best = Math.min(best, askedBy(some, c, node, kept));
            }
        }
        kept.put(some, best);
        return best;
    }

    int askedBy(Set<Integer> some, int c, int node, Map<Set<Integer>, Integer> kept) {
        Set<Integer> yes = new TreeSet<>();
        Set<Integer> no = new TreeSet<>();
        for (int p : some) {
            (isBelow(c, people.get(p).values[c], node) ? yes : no).add(p);
        }
        return yes.isEmpty() || no.isEmpty() ? 99 : 1 + Math.max(askedFor(yes, kept), askedFor(no, kept));
    }

    int questions(int b, int i, int known, int what) {
        if (!isLine(b, i) || !in(known, 0, 255) || !in(what, 0, 2)) {
            return -1;
        }
        if (isCut(b, i)) {
            return -2;
        }
        Set<Integer> fit = fitting(b, i, known, false);
        if (fit.isEmpty()) {
            return -2;
        }
        Map<Set<Integer>, Integer> kept = new HashMap<>();
        int n = askedFor(fit, kept);
        if (n >= 99) {
            return -2;
        }
        if (what == 0) {
            return n;
        }
        if (n == 0) {
            return -3;
        }
        for (int c = 0; c < 4; c++) {
            for (int node = 0; node < 32; node++) {
                if (askedBy(fit, c, node, kept) == n) {
                    return what == 1 ? c : node;
                }
            }
        }
        throw new IllegalStateException("no first question");
    }

    int lossOf(int[] shows) {
        int loss = 0;
        for (int c = 0; c < 4; c++) {
            loss += weights[c] * Math.max(0, size(c, shows[c]) - 1);
        }
        return loss;
    }

    int blurring(int n, int k, int price, int what) {
        if (!in(n, 1, 8) || !in(k, 1, 16) || !in(price, 0, 9999) || !in(what, -1, 4) || tape.size() < n) {
            return -3;
        }
        List<Integer> told = tellPeople(n);
        if (told == null) {
            return -2;
        }
        int least = Integer.MAX_VALUE;
        int answer = 0;
        for (int l0 = 0; l0 < 5; l0++) {
            for (int l1 = 0; l1 < 5; l1++) {
                for (int l2 = 0; l2 < 5; l2++) {
                    for (int l3 = 0; l3 < 5; l3++) {
                        int[] levels = {l0, l1, l2, l3};
                        int loss = 0;
                        int cut = 0;
                        for (int p : told) {
                            Line line = lineOf(p, levels);
                            int fit = 0;
                            for (int q = 0; q < people.size(); q++) {
                                fit += showsFit(q, line.shows) ? 1 : 0;
                            }
                            cut += fit < k ? 1 : 0;
                            loss += fit < k ? price : lossOf(line.shows);
                        }
                        if (loss < least) {
                            least = loss;
                            answer = what == -1 ? loss : what == 4 ? cut : levels[what];
                        }
                    }
                }
            }
        }
        return answer;
    }

    int bestSwap(int b, int k, int what) {
        if (!isBook(b) || !in(k, 1, 16) || !in(what, 0, 3)) {
            return -1;
        }
        int[] best = null;
        for (int c = 0; c < 4; c++) {
            for (int i = 0; i < books.get(b).lines.size(); i++) {
                for (int j = i + 1; j < books.get(b).lines.size(); j++) {
                    if (swap(b, i, j, c)) {
                        int many = Integer.bitCount(safeLines(b, k, 0, false));
                        swap(b, i, j, c);
                        if (best == null || many > best[3]) {
                            best = new int[] {c, i, j, many};
                        }
                    }
                }
            }
        }
        return best == null ? -2 : best[what];
    }

    int together(int k, int what) {
        if (!in(k, 1, 16) || !in(what, 0, 2)) {
            return -1;
        }
        for (int b = 0; b < books.size(); b++) {
            if (books.get(b).shown && safeLines(b, k, 0, true) == live(b)) {
                int safe = safeLines(b, k, 0, false);
                for (int i = 0; i < books.get(b).lines.size(); i++) {
                    if (!isCut(b, i) && (safe >> i & 1) == 0) {
                        return what == 0 ? b : what == 1 ? i : bits(may(allGivings(b, 0, false), i));
                    }
                }
            }
        }
        return -2;
    }

    int loss(int b) {
        if (!isBook(b)) {
            return -1;
        }
        int sum = 0;
        for (Line line : books.get(b).lines) {
            sum += line.cut ? 0 : lossOf(line.shows);
        }
        return sum;
    }

    int linesOf(int b, int p, int known) {
        if (!isBook(b) || !isPerson(p) || !in(known, 0, 255)) {
            return -1;
        }
        List<int[]> rows = allGivings(b, known, false);
        int lines = 0;
        for (int i = 0; i < books.get(b).lines.size(); i++) {
            lines |= through(rows, i, p) > 0 ? 1 << i : 0;
        }
        return lines;
    }

    int check(int b, int i, int n) {
        if (!isLine(b, i) || isCut(b, i) || !in(n, 0, 4) || tape.size() < 4 * n) {
            return -2;
        }
        int wrong = -1;
        for (int c = n - 1; c >= 0; c--) {
            int number = 0;
            for (int at = 0; at < 4; at++) {
                number = 256 * number + tape.get(4 * c + at);
            }
            if (number != books.get(b).lines.get(i).shows[c]) {
                wrong = c;
            }
        }
        tape.clear();
        return wrong;
    }

    int count(int what) {
        int bits = 0;
        switch (what) {
            case 0: return people.size();
            case 1: return books.size();
            case 2: return links.size();
            case 3:
                for (int g = 0; g < 8; g++) {
                    bits |= gossips[g] == null ? 0 : 1 << g;
                }
                return bits;
            case 4: return tape.size();
            case 5:
                for (int b = 0; b < books.size(); b++) {
                    bits |= books.get(b).shown ? 1 << b : 0;
                }
                return bits;
            default:
        }
        if (isBook(what - 10)) {
            return books.get(what - 10).lines.size();
        }
        if (in(what, 20, 23)) {
            return weights[what - 20];
        }
        return isPerson(what - 30) ? people.get(what - 30).wish : -1;
    }
}
