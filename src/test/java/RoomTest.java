import java.lang.management.ManagementFactory;

/** All calls of a run live in one room: an object makes its rows once, and its calls make nothing. */
public final class RoomTest {
    private static final int CALLS = 512;
    private static final long OBJECT_BYTES = 40000;
    private static final long CALLS_BYTES = 200000;

    public static void main(String[] args) {
        com.sun.management.ThreadMXBean threads =
            (com.sun.management.ThreadMXBean) ManagementFactory.getThreadMXBean();
        long thread = Thread.currentThread().getId();
        use(new SelfishJunction(), 40);
        long before = threads.getThreadAllocatedBytes(thread);
        SelfishJunction x = new SelfishJunction();
        long made = threads.getThreadAllocatedBytes(thread);
        use(x, CALLS);
        long after = threads.getThreadAllocatedBytes(thread);
        Check.due("an object of " + (made - before) + " bytes is small", made - before <= OBJECT_BYTES, true);
        Check.due("calls make " + (after - made) + " bytes, hardly any", after - made <= CALLS_BYTES, true);
        Check.finish();
    }

    /** The dearest calls in turn, on a junction with 625 plays. */
    private static void use(SelfishJunction x, int calls) {
        for (int r = 0; r < 8; r++) {
            x.addRoad(r % 3, r % 3 + 1, "lqs".charAt(r % 3), 1 + r, r);
        }
        for (int p = 0; p < 4; p++) {
            x.addTraveller(0, 3, 1, 1);
        }
        for (int call = 0; call < calls; call++) {
            switch (call % 8) {
                case 0: x.countRests(); break;
                case 1: x.hasRing(); break;
                case 2: x.isStrong(); break;
                case 3: x.learn(50); break;
                case 4: x.run('z', 200); break;
                case 5: x.getLevel(999, true); break;
                case 6: x.isSound(); break;
                default: x.longestRun(); break;
            }
        }
    }
}
