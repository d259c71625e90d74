import java.lang.management.ManagementFactory;

/** The calls of a run live in one room that is never cleared: what they make is weighed here. */
public final class RoomTest {
    // 600,000 objects and 7.3 million fields and elements are the room; at 16 bytes an object's head and 4 bytes a
    // field this is far within it.
    private static final long MOST_BYTES = 2_000_000;
    private static final com.sun.management.ThreadMXBean BEAN =
        (com.sun.management.ThreadMXBean) ManagementFactory.getThreadMXBean();

    private interface Run {
        void on(ForgivenWork x);
    }

    private static int wrong = 0;

    public static void main(String[] args) {
        Run[] runs = {RoomTest::regrets, RoomTest::simulations, RoomTest::savesAndLoads, RoomTest::stories};
        for (Run run : runs) {
            run.on(new ForgivenWork());
        }
        for (int k = 0; k < runs.length; k++) {
            long before = BEAN.getThreadAllocatedBytes(Thread.currentThread().getId());
            runs[k].on(new ForgivenWork());
            long bytes = BEAN.getThreadAllocatedBytes(Thread.currentThread().getId()) - before;
            System.out.println("RoomTest: run " + k + " made " + bytes + " bytes");
            if (bytes > MOST_BYTES) {
                wrong++;
            }
        }
        if (wrong != 0) {
            System.out.println("RoomTest: a run makes too much");
            System.exit(1);
        }
    }

    /** One work with hundreds of regrets, remembered fourteen times and kept in both slots. */
    private static void regrets(ForgivenWork x) {
        x.begin(0);
        x.begin(0);
        for (int k = 0; k < 60; k++) {
            x.begin(0);
            for (int r = 1; r <= 6; r++) {
                x.regret(0, k % 16, r);
            }
            x.done(0);
        }
        x.save(0);
        x.fail(0);
        for (int k = 0; k < 14; k++) {
            x.setMercy(k % 4);
        }
        x.save(1);
        x.simulate(1, 99);
    }

    private static void simulations(ForgivenWork x) {
        for (int k = 0; k < 512; k++) {
            x.simulate(k, 99);
        }
    }

    private static void savesAndLoads(ForgivenWork x) {
        x.append('W');
        for (int k = 0; k < 170; k++) {
            x.load();
            x.save(k % 2);
            x.restore(k % 2);
        }
    }

    private static void stories(ForgivenWork x) {
        x.append('W');
        for (int k = 0; k < 17; k++) {
            for (int c : new int[] {'g', '0', '0', k % 10 + '0', '0', '1'}) {
                x.append(c);
            }
        }
        for (int k = 0; k < 200; k++) {
            x.errorPosition();
            x.load();
        }
    }
}
