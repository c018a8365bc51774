import java.lang.management.ManagementFactory;

/** No call may make objects of its own: rows are made in the constructor and used again. */
final class RoomTest {
    private static final com.sun.management.ThreadMXBean THREADS =
            (com.sun.management.ThreadMXBean) ManagementFactory.getThreadMXBean();

    private RoomTest() {
    }

    public static void main(String[] args) {
        long id = Thread.currentThread().getId();
        long least = Long.MAX_VALUE;
        for (int i = 0; i < 5; i++) {
            FlowComputer x = Meters.flowing();
            long before = THREADS.getThreadAllocatedBytes(id);
            callAll(x);
            least = Math.min(least, THREADS.getThreadAllocatedBytes(id) - before);
        }
        Checks.yes("500 calls made " + least + " bytes", least < 4096);
        Checks.end();
    }

    private static void callAll(FlowComputer x) {
        for (int i = 0; i < 20; i++) {
            x.setSpan(i % 4, 3000);
            x.setDamping(i % 4, i % 3);
            x.setMode(i % 2);
            x.setDensity(i % 6, 9000);
            x.setFactor(i % 5, 9900);
            x.setMeter(1000 + i);
            x.setCutoff(i, 2 * i);
            x.setContractHour(i + 1);
            x.setRaw(i % 4, 3000 * i);
            x.openBatch(1000000000, 5);
            x.run(3600);
            x.closeBatch();
            x.undo();
            x.closeBatch();
            x.transmitter(i % 4, i % 4);
            x.density();
            x.total(i % 4);
            x.flowFor(300 * i, 300 * i, 100 * i);
            x.differentialFor(1000L * i);
            x.hour(0, i % 7);
            x.day(0, i % 4);
            x.event(0, i % 3);
            x.digest();
            x.digest();
            x.digest();
        }
    }
}
