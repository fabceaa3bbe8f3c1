import java.lang.management.ManagementFactory;

/** What a run of 512 calls makes stays small, however dear its calls are. */
public final class RoomTest {
    private static final int CALLS = 512;
    private static final long MOST_BYTES = 4_000_000L;

    private static final com.sun.management.ThreadMXBean THREADS =
            (com.sun.management.ThreadMXBean) ManagementFactory.getThreadMXBean();

    public static void main(String[] args) {
        measure("full tables", RoomTest::fullTables);
        measure("full again and again", RoomTest::fullAgainAndAgain);
        measure("many tables", RoomTest::manyTables);
        Due.end();
    }

    private static void measure(String what, Runnable run) {
        run.run();
        long before = THREADS.getCurrentThreadAllocatedBytes();
        run.run();
        long made = THREADS.getCurrentThreadAllocatedBytes() - before;
        Due.holds(what + " makes " + made + " bytes, " + MOST_BYTES + " at most", made <= MOST_BYTES);
    }

    private static void fullTables() {
        FieldTables x = new FieldTables();
        x.make();
        x.make();
        x.fill(1, 1, 20000, 1);
        x.fill(2, 1, 19999, 1);
        for (int calls = 5; calls + 7 < CALLS; calls += 7) {
            x.insert(1, 1, 3, calls);
            x.remove(1, 2);
            x.reverse(1);
            x.copy(2, 1);
            x.same(1, 2);
            x.clear(1, 1, 20000, 1);
            x.fill(1, 1, 20000, 1);
        }
    }

    private static void fullAgainAndAgain() {
        FieldTables x = new FieldTables();
        for (int calls = 0; calls + 4 < CALLS; calls += 4) {
            x.make();
            x.fill(1, calls, 20000, 1 + calls);
            x.fill(1, -1000000 + calls, 20000, 1);
            Due.is("keys that went", x.empty(), 40000);
        }
    }

    private static void manyTables() {
        FieldTables x = new FieldTables();
        for (int calls = 0; calls < CALLS; calls++) {
            Due.is("make", x.make(), calls + 1);
        }
    }
}
