import java.lang.management.ManagementFactory;

/**
 * All calls of a run live in one room. 512 of the dearest calls, on a full town, may make no more
 * than the rows that an object keeps: some 131,000 elements for questions(), and little else.
 */
public final class RoomTest {
    private static final long MOST = 4L * 140_000 + 40_000;

    public static void main(String[] args) {
        long least = Long.MAX_VALUE;
        for (int n = 0; n < 3; n++) {
            long before = made();
            long answers = run();
            least = Math.min(least, made() - before);
            if (answers == 0) {
                System.out.println("nothing was answered");
            }
        }
        System.out.println(least + " bytes made in a run, " + MOST + " at most");
        if (least > MOST) {
            System.exit(1);
        }
    }

    private static long made() {
        com.sun.management.ThreadMXBean threads = (com.sun.management.ThreadMXBean) ManagementFactory.getThreadMXBean();
        return threads.getThreadAllocatedBytes(Thread.currentThread().getId());
    }

    private static long run() {
        TwoFit x = new TwoFit();
        long answers = 0;
        for (int p = 0; p < 16; p++) {
            answers += x.person(p, p / 2, p / 4, p % 3);
            if (p == 0) {
                x.feed(0, 0, 0, 0, 0);
                x.book(1, 4, 4, 4, 4);
            }
            answers += x.questions(0, 0, 0, 0);
        }
        for (int b = 1; b < 4; b++) {
            x.feed(0x00010203, 0x04050607, 0, 0, 0);
            answers += x.book(8, 1, 1, 1, 1);
        }
        for (int n = 0; n < 40; n++) {
            x.link(n % 4, n % 4 == 0 ? 0 : n % 8, (n + 1) % 4, (n + 1) % 4 == 0 ? 0 : n / 5);
        }
        for (int g = 0; g < 8; g++) {
            x.feed('p' << 24 | '<' << 16 | '9' << 8, 0, 0, 0, 0);
            answers += x.gossip(g, 1, g, 3);
        }
        for (int n = 0; n < 40; n++) {
            answers += x.questions(1, 0, 0, 2) + x.fewest(1, 0, 0) + x.bestSwap(1, 2, 0) + x.together(2, 0);
            answers += x.givings(1, 0) + x.odds(1, 0, 0, 0, 0) + x.giving(1, 7, 0) + x.steps(1, 255, -1);
            x.feed(0x00010203, 0x04050607, 0, 0, 0);
            answers += x.blurring(8, 2, 9999, -1);
        }
        return answers;
    }
}
