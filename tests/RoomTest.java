import java.lang.management.ManagementFactory;

/** All calls of a run live in one room: a call makes no objects, but for an exception that it throws. */
public final class RoomTest {
    private static final int ROUNDS = 56;

    public static void main(String[] args) {
        callAll(busy());
        TideMill mill = busy();
        long before = made();
        callAll(mill);
        long bytes = made() - before;
        Check.same("bytes that " + 8 * ROUNDS + " calls make are a few (" + bytes + ")", bytes < 65536, true);
        Check.finish("RoomTest");
    }

    private static TideMill busy() {
        TideMill mill = Mills.flooded();
        for (int pair = 0; pair < 3; pair++) {
            mill.pair();
        }
        for (int lot = 0; lot < 10; lot++) {
            mill.lot(lot % 4, lot % 3, 60, 9);
        }
        for (int pair = 0; pair < 3; pair++) {
            mill.feed(pair, pair);
        }
        mill.sluice(1);
        return mill;
    }

    private static void callAll(TideMill mill) {
        for (int call = 0; call < ROUNDS; call++) {
            mill.digest();
            mill.best(48);
            mill.wouldDone(call % 10);
            mill.wouldLevel(100);
            mill.sluice(call % 5);
            mill.high();
            mill.many(call % 17);
            mill.pass(1);
        }
    }

    private static long made() {
        return ((com.sun.management.ThreadMXBean) ManagementFactory.getThreadMXBean())
                .getThreadAllocatedBytes(Thread.currentThread().getId());
    }
}
