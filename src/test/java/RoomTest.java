import java.lang.management.ManagementFactory;

/** A run of 512 dear calls stays far inside the room: all rows are made in the constructor. */
final class RoomTest {
    private static final int CALLS = 512;
    private static final long MOST_BYTES = 1_000_000;

    public static void main(String[] args) {
        useOneObject();
        long before = allocated();
        useOneObject();
        long used = allocated() - before;
        if (used > MOST_BYTES) {
            Check.report("512 calls took " + used + " bytes");
        }
        Check.finish();
    }

    private static void useOneObject() {
        ChannelMachine m = Check.loaded("^1,{(^a<9,{a:a+1{..}}){A!1A?b}[1&.,{...}]{{..}{..}}}");
        for (int k = 0; k < CALLS; k++) {
            m.run(200);
        }
    }

    private static long allocated() {
        com.sun.management.ThreadMXBean bean =
            (com.sun.management.ThreadMXBean) ManagementFactory.getThreadMXBean();
        return bean.getThreadAllocatedBytes(Thread.currentThread().getId());
    }
}
