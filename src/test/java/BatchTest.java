/** Promises 12 and 13, and 21: openBatch, closeBatch and the valve. */
final class BatchTest {
    private static final int MOST = 1000000000;

    private BatchTest() {
    }

    public static void main(String[] args) {
        opening();
        openingRefused();
        closing();
        undoing();
        Checks.end();
    }

    private static void opened(int preset, int slow, int valve) {
        FlowComputer x = Meters.flowing();
        x.run(1);
        String name = "openBatch(" + preset + ", " + slow + ")";
        Checks.same(name, x.openBatch(preset, slow), 1);
        Checks.same(name + ": valve", x.valve(), valve);
        Checks.same(name + ": mass", x.total(2), 0);
        Checks.same(name + ": events", x.events(), 0);
        Checks.same(name + ": total mass", x.total(0), 3535);
    }

    private static void opening() {
        opened(5, 5, 1);
        opened(5, 4, 2);
        opened(5, 6, 1);
        opened(1, 0, 2);
        opened(1, MOST, 1);
        opened(MOST, 0, 2);
        opened(MOST, MOST, 1);
        FlowComputer x = Meters.flowing();
        for (int i = 1; i <= 4; i++) {
            Checks.same("number of the batch", x.openBatch(i, 0), i);
            x.run(1);
            Checks.same("mass of the latest batch", x.total(2), 3535);
        }
        x.openBatch(1, 0);
        Checks.same("a new batch begins with 0", x.total(2), 0);
    }

    private static void openingRefused() {
        FlowComputer x = new FlowComputer();
        refusedAsArgument(x);
        Checks.same("the first one", x.openBatch(10, 5), 1);
        refusedAsArgument(x);
        Checks.refuses("a batch is open", x, IllegalStateException.class, () -> x.openBatch(1, 0));
        x.closeBatch();
        Checks.same("refused ones do not count", x.openBatch(10, 5), 2);
    }

    private static void refusedAsArgument(FlowComputer x) {
        int[][] wrong = {{0, 0}, {-1, 0}, {MOST + 1, 0}, {1, -1}, {1, MOST + 1}, {0, -1},
            {Integer.MIN_VALUE, 0}, {Integer.MAX_VALUE, 0}, {1, Integer.MIN_VALUE}, {1, Integer.MAX_VALUE}};
        for (int[] pair : wrong) {
            Checks.refuses("openBatch(" + pair[0] + ", " + pair[1] + ")", x, IllegalArgumentException.class,
                    () -> x.openBatch(pair[0], pair[1]));
        }
    }

    private static void closing() {
        FlowComputer x = Meters.flowing();
        Checks.refuses("no batch yet", x, IllegalStateException.class, x::closeBatch);
        x.openBatch(MOST, 0);
        Checks.same("closed at once", x.closeBatch(), 0);
        x.openBatch(10000, 9000);
        x.run(2);
        Checks.same("valve before", x.valve(), 1);
        Checks.same("closed before it is done", x.closeBatch(), 7070);
        Checks.same("valve", x.valve(), 0);
        Checks.same("mass", x.total(2), 7070);
        Checks.same("events", x.events(), 0);
        Checks.refuses("closed already", x, IllegalStateException.class, x::closeBatch);
        x.run(2);
        Checks.same("mass afterwards", x.total(2), 7070);
        Checks.same("valve afterwards", x.valve(), 0);
        Checks.same("no event afterwards", x.events(), 0);
        x.openBatch(3535, 0);
        x.run(1);
        Checks.refuses("done already", x, IllegalStateException.class, x::closeBatch);
    }

    private static void undoing() {
        FlowComputer x = Meters.flowing();
        x.openBatch(10000, 0);
        x.run(1);
        x.closeBatch();
        x.undo();
        Checks.same("open again", x.valve(), 2);
        Checks.same("closed again", x.closeBatch(), 3535);
        x.undo();
        x.undo();
        x.undo();
        Checks.same("valve of no batch", x.valve(), 0);
        Checks.refuses("no batch after undo", x, IllegalStateException.class, x::closeBatch);
        Checks.same("an undone batch does not count", x.openBatch(1, 1), 1);
    }
}
