import java.lang.management.ManagementFactory;

/** All calls of one run share one room of 7.3 million fields and elements, and nothing leaves it. */
public final class RoomTest {
    private static final int CALLS = 512;
    // An element takes a byte at least, most take four: half of the room, counted so, is far on the safe side.
    private static final long HALF_THE_ROOM = 7_300_000L / 2 * 4;

    private static final com.sun.management.ThreadMXBean THREADS =
            (com.sun.management.ThreadMXBean) ManagementFactory.getThreadMXBean();

    public static void main(String[] args) {
        Checks c = new Checks("the room");
        c.sentence("all calls of one run live in one room");
        RoleSessions x = new RoleSessions();
        readTexts(x);
        long before = THREADS.getCurrentThreadAllocatedBytes();
        for (int k = 0; k < CALLS; k++) {
            x = new RoleSessions();
        }
        long ofObjects = THREADS.getCurrentThreadAllocatedBytes() - before;
        c.due("a run of new objects alone fits", ofObjects < HALF_THE_ROOM, true);
        before = THREADS.getCurrentThreadAllocatedBytes();
        int calls = readTexts(x);
        long ofTexts = (THREADS.getCurrentThreadAllocatedBytes() - before) / calls * CALLS;
        c.due("a run of texts fits beside them", ofTexts < HALF_THE_ROOM / 8, true);
        System.out.println("the room: " + ofObjects + " bytes for new objects, " + ofTexts + " for texts");
        c.finish();
    }

    /** Texts with the most types in the fewest characters, since each character is a call. */
    private static int readTexts(RoleSessions x) {
        String[] texts = {"e", "mX.mX.mX.e", "a>b{f0:e,g0:e,h0:e,i0:e,j0:e,k0:e}",
            "mX.".repeat(26) + "a>b{f0:X,g0:X,h0:X}"};
        int calls = 0;
        for (String text : texts) {
            Checks.typed(x, text).protocol();
            Checks.typed(x, "e").process(3);
            calls += text.length() + 3;
        }
        return calls;
    }
}
