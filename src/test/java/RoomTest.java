import com.sun.management.ThreadMXBean;
import java.lang.management.ManagementFactory;

/** What a run of 512 calls makes stays small, also on the biggest disk: nothing that is made is ever given back. */
public final class RoomTest {
    private static final int CALLS = 512;
    private static final long MOST_BYTES = 1_000_000;

    private interface Run {
        void go(BlockLog x, int call);
    }

    public static void main(String[] args) {
        measure("leaf", (x, i) -> {
            if (i % 2 == 0) {
                x.feed(i, 4);
            } else {
                x.leaf();
            }
        });
        measure("block and certify", (x, i) -> {
            if (i == 0) {
                x.block(1, 0);
            } else if (i % 3 == 1) {
                x.certify(-1, 7);
            } else if (i % 3 == 2) {
                x.change(i % 16, -1);
            } else {
                x.block(2, -1);
            }
        });
        measure("prune", (x, i) -> {
            int step = i % 3;
            int height = x.version(0);
            if (step == 0) {
                x.block(height + 1, height == 0 ? 0 : -1);
            } else if (step == 1) {
                x.certify(height == 0 ? -1 : -2, 7);
            } else {
                x.prune(height);
            }
        });
        measure("damage", (x, i) -> {
            int step = i % 4;
            if (step == 0) {
                x.off();
            } else if (step < 3) {
                x.poke(8224 + 26 * (65535 - i * 7) + step, 1 + step);
            } else {
                x.open();
            }
        });
        measure("answers", (x, i) -> {
            x.told(i % 9);
            x.asked(i);
            x.page(i);
        });
        Due.end();
    }

    private static void measure(String name, Run run) {
        ThreadMXBean bean = (ThreadMXBean) ManagementFactory.getThreadMXBean();
        long id = Thread.currentThread().getId();
        run.go(new BlockLog(1), 0);
        long before = bean.getThreadAllocatedBytes(id);
        BlockLog x = new BlockLog(65536);
        for (int i = 0; i < CALLS; i++) {
            run.go(x, i);
        }
        long made = bean.getThreadAllocatedBytes(id) - before;
        System.out.println(name + ": " + made + " bytes");
        Due.is(name + " makes too much: " + made, true, made < MOST_BYTES);
    }
}
