import com.sun.management.ThreadMXBean;
import java.lang.management.ManagementFactory;

/** All memory is made at first: once the benches are made, none of the calls that answer makes anything. */
public final class AlarmBenchMemory {
    private static final int BENCHES = 400;
    private static final int CALLS = 512;
    /** Far below one object a round, far above what the machine may need beside the calls. */
    private static final long MOST_BYTES = 16384;

    public static void main(String[] args) {
        ThreadMXBean threads = (ThreadMXBean) ManagementFactory.getThreadMXBean();
        long thread = Thread.currentThread().getId();
        AlarmBench[] benches = new AlarmBench[BENCHES];
        for (int made = 0; made < BENCHES; made++) {
            benches[made] = new AlarmBench();
        }
        // A first round, so that all classes and what the counting needs are there.
        useUp(new AlarmBench());
        threads.getThreadAllocatedBytes(thread);
        long before = threads.getThreadAllocatedBytes(thread);
        for (AlarmBench bench : benches) {
            useUp(bench);
        }
        long bytes = threads.getThreadAllocatedBytes(thread) - before;
        boolean wrong = bytes > MOST_BYTES;
        System.out.println(wrong ? "the calls made " + bytes + " bytes" : "all memory is made at first");
        if (wrong) {
            System.exit(1);
        }
    }

    private static void useUp(AlarmBench bench) {
        for (int calls = 0; calls + 14 <= CALLS; calls += 14) {
            int alarm = bench.set(5, 1);
            bench.set(9, 2);
            bench.set(0, 3);
            bench.shift(alarm, 6);
            bench.about(alarm, 0);
            bench.stop(alarm);
            bench.pass(4);
            bench.ring();
            bench.told();
            bench.wasDue();
            bench.next();
            bench.count(true);
            bench.stopAll(2);
            bench.time();
        }
    }
}
