import java.util.Arrays;
import java.util.Random;

/**
 * Towns of up to 16 PEOPLE, always the same ones, compared with ways of counting that go over all
 * sets of PEOPLE: GIVINGS and what follows from them, and QUESTIONS. Plain, which writes all GIVINGS
 * down, does not come so far.
 */
public final class WideTest {
    private static final int TOWNS = 120;
    private static int wrong = 0;
    private static int compared = 0;

    private final int seed;
    private final int people;
    private final int[][] values;
    private final int[] wishes;
    private final int[][] uppers = new int[4][32];
    private final int[] owners;
    private final int[] levels = new int[4];
    private int cut = 0;
    private int[] fit;
    /** By LINE and set of PEOPLE: in how many ways the LINES ahead of it use up just the set. */
    private long[][] before;
    /** And in how many ways the LINES from it on can be given when the set is used up. */
    private long[][] after;

    private WideTest(int seed) {
        this.seed = seed;
        Random random = new Random(seed);
        people = 8 + random.nextInt(9);
        values = new int[people][4];
        wishes = new int[people];
        int bound = 1 + random.nextInt(16);
        for (int p = 0; p < people; p++) {
            for (int c = 0; c < 4; c++) {
                values[p][c] = random.nextInt(bound);
            }
            // in every other town nobody is like another, so that all can be told apart
            values[p][0] = seed % 2 == 0 ? p : values[p][0];
            wishes[p] = random.nextInt(3) == 0 ? random.nextInt(17) : 0;
        }
        for (int c = 0; c < 4; c++) {
            levels[c] = c < 2 ? random.nextInt(5) : 1 + random.nextInt(4);
            for (int node = 0; node < 31; node++) {
                int least = Math.max(16, node + 1);
                boolean hangs = node < 24 && random.nextInt(5) > 0;
                uppers[c][node] = hangs ? least + random.nextInt(Math.min(6, 32 - least)) : -1;
            }
            uppers[c][31] = -1;
        }
        owners = new int[1 + random.nextInt(8)];
        for (int i = 0; i < owners.length; i++) {
            owners[i] = (seed + 5 * i) % people;
            cut |= random.nextInt(6) == 0 ? 1 << i : 0;
        }
    }

    public static void main(String[] args) {
        int towns = args.length > 0 ? Integer.parseInt(args[0]) : TOWNS;
        int from = args.length > 1 ? Integer.parseInt(args[1]) : 1;
        for (int seed = from; seed < from + towns && wrong < 20; seed++) {
            WideTest town = new WideTest(seed);
            if (town.isBook()) {
                town.matchings();
                town.questions();
            }
        }
        System.out.println(compared + " answers compared, " + wrong + " unlike");
        if (wrong != 0) {
            System.exit(1);
        }
    }

    private void due(String what, long got, long want) {
        compared++;
        if (got != want) {
            wrong++;
            System.out.println("town " + seed + ": " + what + " answered " + got + ", due is " + want);
        }
    }

    private boolean isBook() {
        return Arrays.stream(owners).distinct().count() == owners.length;
    }

    private boolean isCut(int i) {
        return (cut >> i & 1) == 1;
    }

    /** A new one for each kind of call, as no object is used for more than 512 calls. */
    private TwoFit made() {
        TwoFit x = new TwoFit();
        for (int c = 0; c < 4; c++) {
            for (int node = 0; node < 31; node++) {
                if (uppers[c][node] != -1) {
                    x.upper(c, node, uppers[c][node]);
                }
            }
        }
        for (int p = 0; p < people; p++) {
            x.person(values[p][0], values[p][1], values[p][2], values[p][3]);
            x.wish(p, wishes[p]);
        }
        Edges.book(x, levels[0], levels[1], levels[2], levels[3], owners);
        // by what is SWAPPED, there is often no GIVING
        for (int c = 0; c < seed % 5 && c < 4; c++) {
            x.swap(0, c % owners.length, (c + seed) % owners.length, c);
        }
        for (int i = 0; i < owners.length; i++) {
            if (isCut(i)) {
                x.cut(0, i);
            }
        }
        return x;
    }

    // ---- GIVINGS

    private void matchings() {
        TwoFit x = made();
        fit = new int[owners.length];
        for (int i = 0; i < owners.length; i++) {
            fit[i] = isCut(i) ? 0 : x.fits(0, i, 0);
        }
        countWays();
        long all = after[0][0];
        due("givings", x.givings(0, 0), all);
        due("tooFew", x.tooFew(0, 0), fewestTooFew());
        odds(made(), all);
        mustBe(made(), all);
        linesAndSafety(made());
        leastGiving(made(), all);
    }

    private void countWays() {
        int n = owners.length;
        int sets = 1 << people;
        before = new long[n + 1][sets];
        after = new long[n + 1][sets];
        before[0][0] = 1;
        Arrays.fill(after[n], 1);
        for (int i = 0; i < n; i++) {
            for (int set = 0; set < sets; set++) {
                if (isCut(i)) {
                    before[i + 1][set] = before[i][set];
                }
                for (int p = 0; p < people; p++) {
                    if (canBeGiven(i, p, set)) {
                        before[i + 1][set | 1 << p] += before[i][set];
                    }
                }
            }
        }
        for (int i = n - 1; i >= 0; i--) {
            for (int set = 0; set < sets; set++) {
                after[i][set] = isCut(i) ? after[i + 1][set] : 0;
                for (int p = 0; p < people; p++) {
                    if (canBeGiven(i, p, set)) {
                        after[i][set] += after[i + 1][set | 1 << p];
                    }
                }
            }
        }
    }

    private boolean canBeGiven(int i, int p, int used) {
        return (fit[i] >> p & 1) == 1 && (used >> p & 1) == 0;
    }

    private long through(int i, int p) {
        long ways = 0;
        for (int set = 0; set < 1 << people; set++) {
            if (canBeGiven(i, p, set)) {
                ways += before[i][set] * after[i + 1][set | 1 << p];
            }
        }
        return ways;
    }

    private static long divisor(long a, long b) {
        return b == 0 ? a : divisor(b, a % b);
    }

    private void odds(TwoFit x, long all) {
        for (int i = 0; i < owners.length; i++) {
            for (int p = 0; p < people; p++) {
                long ways = through(i, p);
                boolean none = isCut(i) || all == 0;
                long shared = none ? 1 : divisor(all, ways);
                due("odds of " + i + " " + p, x.odds(0, i, p, 0, 0), none ? -2 : ways / shared);
                due("odds of " + i + " " + p + " below", x.odds(0, i, p, 0, 1), none ? -2 : all / shared);
            }
        }
    }

    private void mustBe(TwoFit x, long all) {
        for (int i = 0; i < owners.length; i++) {
            for (int p = 0; p < people; p++) {
                long ways = through(i, p);
                int must = ways == 0 ? 0 : ways == all ? 2 : 1;
                due("mustBe of " + i + " " + p, x.mustBe(0, i, p, 0), isCut(i) ? -2 : must);
            }
        }
    }

    private void linesAndSafety(TwoFit x) {
        int[] may = new int[owners.length];
        for (int p = 0; p < people; p++) {
            int lines = 0;
            for (int i = 0; i < owners.length; i++) {
                if (through(i, p) > 0) {
                    lines |= 1 << i;
                    may[i]++;
                }
            }
            due("linesOf " + p, x.linesOf(0, p, 0), lines);
        }
        for (int k = 1; k <= 16; k++) {
            int safe = 0;
            for (int i = 0; i < owners.length; i++) {
                safe |= !isCut(i) && may[i] >= k && may[i] >= wishes[owners[i]] ? 1 << i : 0;
            }
            due("safe for " + k, x.safe(0, k, 0), safe);
        }
    }

    private void leastGiving(TwoFit x, long all) {
        int used = 0;
        for (int i = 0; i < owners.length; i++) {
            int given = -2;
            for (int p = 0; p < people && all > 0 && given == -2; p++) {
                if (canBeGiven(i, p, used) && after[i + 1][used | 1 << p] > 0) {
                    given = p;
                }
            }
            used |= given == -2 ? 0 : 1 << given;
            due("giving of " + i, x.giving(0, i, 0), given);
        }
    }

    private int fewestTooFew() {
        int best = 0;
        for (int set = 1; set < 1 << owners.length; set++) {
            int together = 0;
            for (int i = 0; i < owners.length; i++) {
                together |= (set >> i & 1) == 1 ? fit[i] : 0;
            }
            boolean fewer = best == 0 || Integer.bitCount(set) < Integer.bitCount(best);
            if ((set & cut) == 0 && Integer.bitCount(together) < Integer.bitCount(set) && fewer) {
                best = set;
            }
        }
        return best;
    }

    // ---- QUESTIONS

    private void questions() {
        int[] splits = new int[128];
        for (int c = 0; c < 4; c++) {
            for (int p = 0; p < people; p++) {
                for (int node = values[p][c]; node != -1; node = uppers[c][node]) {
                    splits[32 * c + node] |= 1 << p;
                }
            }
        }
        int[] needed = neededForSets(splits);
        TwoFit x = made();
        for (int i = 0; i < owners.length; i++) {
            if (!isCut(i)) {
                int n = fit[i] == 0 ? 99 : needed[fit[i]];
                int first = firstQuestion(splits, needed, fit[i], n);
                due("questions", x.questions(0, i, 0, 0), n >= 99 ? -2 : n);
                due("questions, COLUMN", x.questions(0, i, 0, 1), n >= 99 ? -2 : n == 0 ? -3 : first / 32);
                due("questions, NODE", x.questions(0, i, 0, 2), n >= 99 ? -2 : n == 0 ? -3 : first % 32);
            }
        }
    }

    private int[] neededForSets(int[] splits) {
        int[] needed = new int[1 << people];
        for (int set = 1; set < needed.length; set++) {
            needed[set] = Integer.bitCount(set) == 1 ? 0 : 99;
            for (int s = 0; s < splits.length && needed[set] > 0; s++) {
                needed[set] = Math.min(needed[set], neededBy(splits[s], needed, set));
            }
        }
        return needed;
    }

    private static int neededBy(int split, int[] needed, int set) {
        int yes = set & split;
        int no = set & ~split;
        return yes == 0 || no == 0 ? 99 : 1 + Math.max(needed[yes], needed[no]);
    }

    private static int firstQuestion(int[] splits, int[] needed, int set, int n) {
        for (int s = 0; s < splits.length; s++) {
            if (neededBy(splits[s], needed, set) == n) {
                return s;
            }
        }
        return -1;
    }
}
