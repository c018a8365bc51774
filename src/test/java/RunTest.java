/** Promise 11: run, step by step of "each second". */
final class RunTest {
    private static final int FAULT = FlowComputer.FAULT;
    private static final int CLEAR = FlowComputer.CLEAR;
    private static final int SWITCH = FlowComputer.SWITCH;
    private static final int HELD = FlowComputer.HELD;

    private RunTest() {
    }

    public static void main(String[] args) {
        arguments();
        faults();
        filter();
        rangeByValues();
        rangeByOddSpan();
        rangeByFaults();
        held();
        heldAgain();
        differentialIsNotNegative();
        flowOfPresentValues();
        cutoff();
        volume();
        batch();
        orderOfEvents();
        Checks.end();
    }

    private static void arguments() {
        FlowComputer x = Meters.flowing();
        for (int wrong : new int[] {0, -1, 20001, Integer.MIN_VALUE, Integer.MAX_VALUE}) {
            Checks.refuses("run(" + wrong + ")", x, IllegalArgumentException.class, () -> x.run(wrong));
        }
        Checks.same("run(1)", x.run(1), 3535);
        long before = x.digest();
        Checks.same("run(20000)", x.run(20000), 70700000);
        Checks.same("total(0)", x.total(0), 70703535);
        Checks.same("total(1)", x.total(1), 70703535);
        Checks.same("hours", x.hours(), 5);
        Checks.same("undo", x.undo(), 2);
        Checks.same("digest after undo", x.digest(), before);
    }

    private static void faults() {
        FlowComputer x = new FlowComputer();
        x.setRaw(2, 12000);
        Checks.same("12000 is sound", x.transmitter(2, 2), 0);
        x.run(1);
        Checks.same("no event", x.events(), 0);
        x.setRaw(2, 11999);
        Checks.same("11999 is faulty", x.transmitter(2, 2), 1);
        x.setRaw(2, 12000);
        x.run(1);
        Checks.same("a fault between two seconds is not seen", x.events(), 0);
        Meters.fail(x, 3);
        x.setRaw(2, 11999);
        x.run(4);
        Checks.same("a fault is logged once", x.events(), 2);
        Meters.event("faults", x, 0, 3, FAULT, 2);
        Meters.event("faults", x, 1, 3, FAULT, 3);
        Meters.repair(x, 2);
        Meters.repair(x, 3);
        x.run(3);
        Checks.same("it is cleared once", x.events(), 4);
        Meters.event("faults", x, 2, 7, CLEAR, 2);
        Meters.event("faults", x, 3, 7, CLEAR, 3);
    }

    private static void filter() {
        FlowComputer x = new FlowComputer();
        x.setDamping(2, 3);
        Meters.show(x, 2, 1000);
        filtered(x, 125);
        filtered(x, 234);
        Meters.show(x, 2, 0);
        filtered(x, 204);
        x.setDamping(2, 8);
        Meters.show(x, 2, 10000);
        filtered(x, 242);
        Meters.show(x, 2, 241);
        filtered(x, 241);
        Meters.show(x, 2, 242);
        filtered(x, 241);
        Meters.fail(x, 2);
        filtered(x, 241);
        x.setDamping(2, 0);
        filtered(x, 241);
        Meters.show(x, 2, 9999);
        filtered(x, 9999);
    }

    private static void filtered(FlowComputer x, int due) {
        x.run(1);
        Checks.same("filtered value", x.transmitter(2, 1), due);
    }

    private static void ranges(String what, FlowComputer x, int... due) {
        for (int i = 0; i < due.length; i++) {
            x.run(1);
            Checks.same(what + ": range in second " + i, x.range(), due[i]);
        }
    }

    private static void rangeByValues() {
        FlowComputer x = new FlowComputer();
        Meters.show(x, 0, 2374);
        Meters.show(x, 1, 2300);
        ranges("below 95 percent", x, 0, 0);
        Checks.same("differential of the low range", x.differential(), 2374);
        Meters.show(x, 0, 2375);
        ranges("from 95 percent", x, 1);
        Meters.event("from 95 percent", x, 0, 3, SWITCH, 1);
        Checks.same("differential of the high range", x.differential(), 2300);
        Meters.show(x, 0, 0);
        Meters.show(x, 1, 2250);
        ranges("not below 90 percent", x, 1, 1);
        Meters.show(x, 1, 2249);
        ranges("below 90 percent", x, 0);
        Meters.event("below 90 percent", x, 1, 6, SWITCH, 0);
        Checks.same("differential of the low range again", x.differential(), 0);
        Meters.show(x, 0, 2375);
        ranges("at most once in a second", x, 1, 0, 1, 0);
        Checks.same("events", x.events(), 6);
    }

    private static void rangeByOddSpan() {
        FlowComputer x = new FlowComputer();
        x.setSpan(0, 2501);
        Meters.show(x, 0, 2374, 2501);
        Meters.show(x, 1, 2250);
        ranges("below floor(2375.95)", x, 0);
        Meters.show(x, 0, 2375, 2501);
        ranges("from floor(2375.95)", x, 1, 1);
        Meters.show(x, 1, 2249);
        ranges("below floor(2250.9)", x, 0);
        FlowComputer y = Meters.flowing();
        y.run(1);
        y.setDamping(0, 8);
        y.setSpan(0, 100);
        ranges("the present span, the filtered value", y, 1);
        Checks.same("filtered value", y.transmitter(0, 1), 1245);
    }

    private static void rangeByFaults() {
        FlowComputer x = new FlowComputer();
        Meters.show(x, 0, 100);
        Meters.show(x, 1, 200);
        Meters.fail(x, 0);
        ranges("low is faulty", x, 1, 1);
        Checks.same("differential of high", x.differential(), 200);
        Meters.fail(x, 1);
        ranges("both are faulty in the high range", x, 1, 1);
        Meters.show(x, 0, 2400);
        ranges("high is faulty", x, 0, 0);
        Checks.same("differential of low", x.differential(), 2400);
        Meters.fail(x, 0);
        ranges("both are faulty in the low range", x, 0, 0);
        Meters.event("rangeByFaults", x, 0, 1, FAULT, 0);
        Meters.event("rangeByFaults", x, 1, 1, SWITCH, 1);
        Meters.event("rangeByFaults", x, 2, 3, FAULT, 1);
        Meters.event("rangeByFaults", x, 3, 5, CLEAR, 0);
        Meters.event("rangeByFaults", x, 4, 5, SWITCH, 0);
        Meters.event("rangeByFaults", x, 5, 7, FAULT, 0);
        Checks.same("events", x.events(), 6);
    }

    private static void held() {
        FlowComputer x = Meters.flowing();
        x.run(1);
        Meters.fail(x, 0);
        Meters.fail(x, 1);
        Checks.same("ten held seconds", x.run(10), 35350);
        Checks.same("differential after ten", x.differential(), 1250);
        Checks.same("events after ten", x.events(), 2);
        Checks.same("the eleventh", x.run(1), 0);
        Checks.same("differential after eleven", x.differential(), 0);
        Checks.same("flow after eleven", x.flow(), 0);
        Meters.event("held", x, 2, 12, HELD, 0);
        Checks.same("more", x.run(20), 0);
        Checks.same("events after more", x.events(), 3);
        Checks.same("differential after more", x.differential(), 0);
        Meters.show(x, 0, 1250);
        Checks.same("not held any more", x.run(1), 3535);
    }

    private static void heldAgain() {
        FlowComputer x = Meters.flowing();
        x.run(1);
        for (int i = 0; i < 2; i++) {
            Meters.fail(x, 0);
            Meters.fail(x, 1);
            Checks.same("ten held seconds", x.run(10), 35350);
            Meters.show(x, 0, 1250);
            Checks.same("a sound one", x.run(1), 3535);
        }
        for (int i = 0; i < x.events(); i++) {
            Checks.yes("no HELD event", x.event(i, 1) != HELD);
        }
        FlowComputer y = Meters.flowing();
        y.run(1);
        Meters.fail(y, 0);
        y.run(10);
        Meters.fail(y, 1);
        y.run(10);
        Checks.same("held counts only while both are faulty", y.event(y.events() - 1, 1), FAULT);
    }

    private static void differentialIsNotNegative() {
        FlowComputer x = new FlowComputer();
        Meters.show(x, 0, -10);
        Checks.same("flow", x.run(1), 0);
        Checks.same("filtered value", x.transmitter(0, 1), -10);
        Checks.same("differential", x.differential(), 0);
    }

    private static void flowOfPresentValues() {
        FlowComputer x = new FlowComputer();
        x.setMode(FlowComputer.GAS);
        x.setDensity(0, 12);
        Meters.show(x, 0, 500);
        Meters.show(x, 2, 5000);
        Meters.show(x, 3, 200);
        Checks.same("gas", x.run(1), 544);
        Checks.same("density of the gas", x.density(), 594);
        Checks.same("volume of the gas", x.total(1), 9158);
        x.setMode(FlowComputer.LIQUID);
        x.setDensity(2, 10000);
        Checks.same("liquid", x.run(1), 2236);
        x.setFactor(1, 9500);
        Checks.same("liquid with a meter factor", x.run(1), 2193);
        Checks.same("flow", x.flow(), x.flowFor(500, 5000, 200));
    }

    private static void cutoff() {
        FlowComputer x = Meters.flowing();
        x.setCutoff(3535, 3536);
        flows(x, true);
        x.setCutoff(3536, 3536);
        flows(x, false);
        x.setCutoff(3535, 3536);
        flows(x, false);
        flows(x, false);
        x.setCutoff(0, 3535);
        flows(x, true);
        x.setCutoff(3536, 100000);
        Checks.yes("the setting alone changes nothing", x.isFlowing());
        Checks.same("flow before the next second", x.flow(), 3535);
        flows(x, false);
        x.setCutoff(0, 0);
        flows(x, true);
        Checks.same("total", x.total(0), 3 * 3535);
        Checks.same("no other events", x.events(), 6);
    }

    private static void flows(FlowComputer x, boolean due) {
        Checks.same("increase", x.run(1), due ? 3535 : 0);
        Checks.same("flow", x.flow(), due ? 3535 : 0);
        Checks.yes("isFlowing is " + due, x.isFlowing() == due);
        Checks.same("differential does not mind", x.differential(), 1250);
    }

    private static void volume() {
        FlowComputer x = Meters.flowing();
        x.setDensity(0, 3);
        Checks.same("flow at density 3", x.run(1), 61);
        Checks.same("volume", x.total(1), 203333);
        Checks.same("flow of a second one", x.run(1), 61);
        Checks.same("floor in each second", x.total(1), 406666);
        x.setMode(FlowComputer.GAS);
        Checks.same("flow at density 0", x.run(1), 0);
        Checks.same("density", x.density(), 0);
        Checks.same("volume at density 0", x.total(1), 406666);
    }

    private static void batch() {
        FlowComputer x = Meters.flowing();
        x.openBatch(3 * 3535, 3535);
        batchSecond(x, 2, 3535);
        batchSecond(x, 1, 2 * 3535);
        batchSecond(x, 0, 3 * 3535);
        Meters.event("batch", x, 0, 3, FlowComputer.BATCH, 0);
        batchSecond(x, 0, 3 * 3535);
        x.openBatch(2 * 3535, 3534);
        batchSecond(x, 2, 3535);
        batchSecond(x, 0, 2 * 3535);
        x.openBatch(3536, 0);
        batchSecond(x, 2, 3535);
        batchSecond(x, 0, 2 * 3535);
        Meters.event("batch", x, 2, 8, FlowComputer.BATCH, 3534);
        Checks.same("events", x.events(), 3);
        x.setCutoff(4000, 4000);
        x.openBatch(1, 0);
        batchSecond(x, 2, 0);
        Checks.same("nothing flows, nothing is done", x.events(), 4);
    }

    private static void batchSecond(FlowComputer x, int valve, long mass) {
        x.run(1);
        Checks.same("valve", x.valve(), valve);
        Checks.same("mass of the batch", x.total(2), mass);
    }

    private static void orderOfEvents() {
        FlowComputer x = new FlowComputer();
        x.openBatch(1000, 0);
        Meters.fail(x, 2);
        x.run(1);
        Meters.show(x, 2, 0);
        Meters.fail(x, 0);
        Meters.show(x, 1, 200);
        Checks.same("flow", x.run(1), 1414);
        Meters.event("order", x, 0, 1, FAULT, 2);
        Meters.event("order", x, 1, 2, FAULT, 0);
        Meters.event("order", x, 2, 2, CLEAR, 2);
        Meters.event("order", x, 3, 2, SWITCH, 1);
        Meters.event("order", x, 4, 2, FlowComputer.BATCH, 414);
        Checks.same("events", x.events(), 5);
    }
}
