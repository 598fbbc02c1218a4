import com.sun.management.ThreadMXBean;
import java.lang.management.ManagementFactory;

/** What the dearest runs of 512 calls make: all calls of one run live in one room, where nothing is given back. */
public final class RoomTests {
    // 600,000 objects take some 10 million bytes at least, 7.3 million fields and elements some 29 million.
    private static final long MOST_BYTES = 2_000_000;

    private static final int MOST_CALLS = 512;

    private static int calls = 0;

    public static void main(String[] args) {
        // The first measured run also loads classes.
        bytesOf(() -> new MatchMill().clear());
        boolean small = staysSmall("many trees", RoomTests::dear);
        small &= staysSmall("many values", RoomTests::manyValues);
        if (!small) {
            System.out.println("a run makes more than " + MOST_BYTES + " bytes, or has more than " + MOST_CALLS + " calls");
            System.exit(1);
        }
        System.out.println("all answers are as due");
    }

    private static boolean staysSmall(String what, Runnable run) {
        calls = 0;
        long bytes = bytesOf(run);
        System.out.println(what + ": " + bytes + " bytes in " + calls + " calls");
        return bytes <= MOST_BYTES && calls <= MOST_CALLS;
    }

    private static long bytesOf(Runnable calls) {
        ThreadMXBean bean = (ThreadMXBean) ManagementFactory.getThreadMXBean();
        long id = Thread.currentThread().getId();
        long before = bean.getThreadAllocatedBytes(id);
        calls.run();
        return bean.getThreadAllocatedBytes(id) - before;
    }

    private static void dear() {
        MatchMill mill = new MatchMill();
        rowsToTheLimit(mill);
        mill.clear();
        rowsOfOneTree(mill);
        mill.clear();
        rowsToTheLimit(mill);
        calls += 2;
    }

    /** Values led through a tree with 80 rows, until the calls are used up. */
    private static void manyValues() {
        MatchMill mill = new MatchMill();
        rowsOfOneTree(mill);
        while (calls + 2 <= MOST_CALLS) {
            mill.number(0, calls % 80, true);
            mill.match(-1);
            calls += 2;
        }
    }

    /** 800 rows in 114 questions, as in PromiseTests; a case more is refused. */
    private static void rowsToTheLimit(MatchMill mill) {
        mill.type(0, 1);
        mill.argument(0, 0, 1);
        mill.argument(0, 0, 2);
        mill.type(1, 8);
        mill.type(2, 1);
        mill.argument(2, 0, 2);
        for (int i = 0; i < 8; i++) {
            if (i == 0) {
                mill.make(1, 0, false);
            } else {
                mill.any(1);
            }
            mill.any(2);
            for (int depth = 0; depth < 14 && i > 0; depth++) {
                mill.make(2, 0, false);
                calls++;
            }
            mill.make(0, 0, false);
            mill.addCase(i == 0);
            mill.build();
            calls += 5;
        }
        mill.any(0);
        mill.addCase(false);
        boolean refused = false;
        try {
            mill.build();
        } catch (UnsupportedOperationException e) {
            refused = true;
        }
        calls += 9;
        if (!refused) {
            System.out.println("more than 800 rows are not refused");
            System.exit(1);
        }
    }

    private static void rowsOfOneTree(MatchMill mill) {
        mill.type(0, 0);
        calls++;
        for (int i = 0; i < 80; i++) {
            mill.number(0, i, false);
            calls++;
            if (i % 8 > 0) {
                mill.either();
                calls++;
            }
            if (i % 8 == 7) {
                mill.addCase(true);
                mill.build();
                mill.number(0, i, true);
                mill.match(0);
                calls += 4;
            }
        }
    }
}
