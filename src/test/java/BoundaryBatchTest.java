/** The boundary cases of promises 12 and 13, and of what the description says of a batch in each second. */
final class BoundaryBatchTest {
    private static final int MOST = 1000000000;
    private static final int FLOW = 3535;

    private BoundaryBatchTest() {
    }

    public static void main(String[] args) {
        Suite.run(BoundaryBatchTest.class);
    }

    // ---- the arguments

    static void promise12LeastPreset() {
        opens(1, 0, 2);
        FlowComputer x = Meters.flowing();
        x.openBatch(1, 0);
        second(x, 0, FLOW);
        Meters.event("done", x, 0, 1, FlowComputer.BATCH, FLOW - 1);
    }

    static void promise12GreatestPreset() {
        opens(MOST, 0, 2);
        FlowComputer x = greatFlow();
        x.openBatch(MOST, 0);
        x.run(577);
        Checks.same("mass a second before", x.total(2), 999392850);
        Checks.same("valve a second before", x.valve(), 2);
        second(x, 0, 1001124900);
        Meters.event("done", x, 3, 578, FlowComputer.BATCH, 1124900);
    }

    /** 1732050 in each second. */
    private static FlowComputer greatFlow() {
        FlowComputer x = new FlowComputer();
        x.setMeter(100000);
        x.setSpan(0, 30000);
        x.setRaw(0, 65535);
        x.setRaw(1, 0);
        return x;
    }

    static void promise12PresetTooSmall() {
        refusedAsArgument(0, 0);
        refusedAsArgument(-1, 0);
        refusedAsArgument(Integer.MIN_VALUE, 0);
    }

    static void promise12PresetTooLarge() {
        refusedAsArgument(MOST + 1, 0);
        refusedAsArgument(Integer.MAX_VALUE, 0);
    }

    static void promise12LeastSlow() {
        opens(1, 0, 2);
        opens(MOST, 0, 2);
    }

    static void promise12GreatestSlow() {
        opens(1, MOST, 1);
        opens(MOST, MOST, 1);
    }

    static void promise12SlowTooSmall() {
        refusedAsArgument(1, -1);
        refusedAsArgument(MOST, -1);
        refusedAsArgument(1, Integer.MIN_VALUE);
    }

    static void promise12SlowTooLarge() {
        refusedAsArgument(1, MOST + 1);
        refusedAsArgument(MOST, MOST + 1);
        refusedAsArgument(1, Integer.MAX_VALUE);
    }

    static void promise12PresetAndSlowWrong() {
        refusedAsArgument(0, -1);
        refusedAsArgument(MOST + 1, MOST + 1);
    }

    /** Also while a batch is open, as in one of the prepared states: this exception is listed first. */
    private static void refusedAsArgument(int preset, int slow) {
        Refusals.everywhere("openBatch(" + preset + ", " + slow + ")", Refusals.ARGUMENT,
                x -> x.openBatch(preset, slow));
    }

    static void promise12ABatchIsOpen() {
        Refusals.in(Prepared.BUSY, "openBatch(1, 0)", Refusals.STATE, x -> x.openBatch(1, 0));
        Refusals.in(Prepared.BUSY, "openBatch(MOST, MOST)", Refusals.STATE, x -> x.openBatch(MOST, MOST));
    }

    // ---- the valve and the number

    static void promise12PresetEqualToSlow() {
        opens(5000, 5000, 1);
        opens(1, 1, 1);
        opens(MOST, MOST, 1);
    }

    static void promise12PresetOneAboveSlow() {
        opens(5000, 4999, 2);
        opens(MOST, MOST - 1, 2);
    }

    static void promise12PresetOneBelowSlow() {
        opens(5000, 5001, 1);
        opens(MOST - 1, MOST, 1);
    }

    private static void opens(int preset, int slow, int valve) {
        FlowComputer x = new FlowComputer();
        String what = "openBatch(" + preset + ", " + slow + ")";
        Checks.same(what, x.openBatch(preset, slow), 1);
        Checks.same(what + ": valve", x.valve(), valve);
        Checks.same(what + ": mass", x.total(2), 0);
        Checks.same(what + ": events", x.events(), 0);
        Checks.same(what + ": undo", x.undo(), 0);
        Checks.same(what + ": valve after undo", x.valve(), 0);
    }

    static void promise12TheFirstBatchIsNumber1() {
        Checks.same("openBatch", new FlowComputer().openBatch(1, 0), 1);
    }

    static void promise12ARefusedBatchHasNoNumber() {
        FlowComputer x = new FlowComputer();
        Checks.throwsExactly("preset 0", Refusals.ARGUMENT, () -> x.openBatch(0, 0));
        Checks.same("openBatch", x.openBatch(1, 0), 1);
        Checks.throwsExactly("open", Refusals.STATE, () -> x.openBatch(1, 0));
        x.closeBatch();
        Checks.same("openBatch after refused ones", x.openBatch(1, 0), 2);
    }

    static void promise12ClosedAndDoneBatchesCount() {
        FlowComputer x = Meters.flowing();
        x.openBatch(MOST, 0);
        x.closeBatch();
        Checks.same("after a closed one", x.openBatch(1, 0), 2);
        x.run(1);
        Checks.same("after a done one", x.openBatch(1, 0), 3);
    }

    static void promise12AnUndoneBatchDoesNotCount() {
        FlowComputer x = new FlowComputer();
        x.openBatch(1, 0);
        x.undo();
        Checks.same("openBatch", x.openBatch(1, 0), 1);
    }

    static void promise12ManyBatches() {
        FlowComputer x = new FlowComputer();
        for (int i = 1; i <= 200; i++) {
            Checks.same("openBatch", x.openBatch(i, 0), i);
            x.closeBatch();
        }
    }

    static void promise12TheMassBeginsAt0() {
        FlowComputer x = Meters.flowing();
        x.openBatch(1, 0);
        x.run(1);
        Checks.same("mass of the done one", x.total(2), FLOW);
        x.openBatch(MOST, 0);
        Checks.same("mass of the new one", x.total(2), 0);
    }

    // ---- the seconds

    static void promise11BatchMassEqualToThePreset() {
        FlowComputer x = Meters.flowing();
        x.openBatch(2 * FLOW, 0);
        second(x, 2, FLOW);
        second(x, 0, 2 * FLOW);
        Meters.event("done", x, 0, 2, FlowComputer.BATCH, 0);
        Checks.refuses("closeBatch", x, Refusals.STATE, x::closeBatch);
    }

    static void promise11BatchMassOneBelowThePreset() {
        FlowComputer x = Meters.flowing();
        x.openBatch(FLOW + 1, 0);
        second(x, 2, FLOW);
        Checks.same("events", x.events(), 0);
        Checks.same("closeBatch", x.closeBatch(), FLOW);
    }

    static void promise11BatchMassOneAboveThePreset() {
        FlowComputer x = Meters.flowing();
        x.openBatch(FLOW - 1, 0);
        second(x, 0, FLOW);
        Meters.event("done", x, 0, 1, FlowComputer.BATCH, 1);
    }

    static void promise11RemainderEqualToSlow() {
        FlowComputer x = Meters.flowing();
        x.openBatch(FLOW + 1000, 1000);
        Checks.same("valve at first", x.valve(), 2);
        second(x, 1, FLOW);
    }

    static void promise11RemainderOneAboveSlow() {
        FlowComputer x = Meters.flowing();
        x.openBatch(FLOW + 1000, 999);
        second(x, 2, FLOW);
    }

    static void promise11SlowOfZeroIsNeverSlow() {
        FlowComputer x = Meters.flowing();
        x.openBatch(FLOW + 1, 0);
        second(x, 2, FLOW);
        second(x, 0, 2 * FLOW);
    }

    static void promise11ABatchWithoutFlow() {
        FlowComputer x = new FlowComputer();
        x.openBatch(1, 0);
        x.run(20000);
        Checks.same("valve", x.valve(), 2);
        Checks.same("mass", x.total(2), 0);
        Checks.same("events", x.events(), 0);
        Checks.same("closeBatch", x.closeBatch(), 0);
    }

    static void promise11ADoneBatchGetsNoMoreMass() {
        FlowComputer x = Meters.flowing();
        x.openBatch(3 * FLOW, 0);
        x.run(100);
        Checks.same("mass", x.total(2), 3 * FLOW);
        Checks.same("events", x.events(), 1);
        Meters.event("done", x, 0, 3, FlowComputer.BATCH, 0);
        second(x, 0, 3 * FLOW);
    }

    private static void second(FlowComputer x, int valve, long mass) {
        x.run(1);
        Checks.same("valve", x.valve(), valve);
        Checks.same("mass of the batch", x.total(2), mass);
    }

    // ---- closing

    static void promise13NoBatchYet() {
        Refusals.in(Prepared.NEW, "closeBatch()", Refusals.STATE, FlowComputer::closeBatch);
    }

    static void promise13DoneAlready() {
        Refusals.in(Prepared.FULL, "closeBatch()", Refusals.STATE, FlowComputer::closeBatch);
    }

    static void promise13ClosedAlready() {
        FlowComputer x = Meters.flowing();
        x.openBatch(MOST, 0);
        x.run(1);
        x.closeBatch();
        Checks.refuses("closeBatch", x, Refusals.STATE, x::closeBatch);
        Checks.same("mass", x.total(2), FLOW);
    }

    static void promise13UndoneOpening() {
        FlowComputer x = new FlowComputer();
        x.openBatch(1, 0);
        x.undo();
        Checks.refuses("closeBatch", x, Refusals.STATE, x::closeBatch);
    }

    static void promise13UndoneClosing() {
        FlowComputer x = new FlowComputer();
        x.openBatch(1, 0);
        x.closeBatch();
        Checks.same("undo", x.undo(), 1);
        Checks.same("valve", x.valve(), 2);
        Checks.same("closeBatch", x.closeBatch(), 0);
    }

    static void promise13ClosedAtOnce() {
        FlowComputer x = Meters.flowing();
        x.openBatch(1, 0);
        Checks.same("closeBatch", x.closeBatch(), 0);
        Checks.same("valve", x.valve(), 0);
    }

    static void promise13ClosedASecondBeforeItIsDone() {
        FlowComputer x = Meters.flowing();
        x.openBatch(3 * FLOW, FLOW);
        x.run(2);
        Checks.same("valve before", x.valve(), 1);
        Checks.same("closeBatch", x.closeBatch(), 2 * FLOW);
        Checks.same("valve", x.valve(), 0);
        second(x, 0, 2 * FLOW);
        Checks.same("events", x.events(), 0);
    }

    static void promise13TheGreatestMass() {
        FlowComputer x = greatFlow();
        x.openBatch(MOST, MOST);
        x.run(577);
        Checks.same("closeBatch", x.closeBatch(), 999392850);
    }
}
