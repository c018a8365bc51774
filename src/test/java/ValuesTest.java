/** Promises 14 to 23: what can be asked of the present state, and the flow for given values. */
final class ValuesTest {
    private static final Class<?> INDEX = IndexOutOfBoundsException.class;
    private static final Class<?> ARGUMENT = IllegalArgumentException.class;

    private ValuesTest() {
    }

    public static void main(String[] args) {
        transmitter();
        presentValues();
        liquidDensity();
        gasDensity();
        totals();
        flowForLiquid();
        flowForGas();
        flowForFactors();
        flowForRefused();
        differentialFor();
        differentialForGas();
        differentialForRefused();
        questionsChangeNothing();
        Checks.end();
    }

    private static void transmitter() {
        FlowComputer x = new FlowComputer();
        for (int t = 0; t < 4; t++) {
            x.setDamping(t, 1);
            x.setRaw(t, 65535);
        }
        x.run(1);
        int[] readings = {2500, 25000, 10000, 1500};
        int[] filtered = {1250, 12500, 5000, 500};
        for (int t = 0; t < 4; t++) {
            Checks.same("reading of " + t, x.transmitter(t, 0), readings[t]);
            Checks.same("filtered value of " + t, x.transmitter(t, 1), filtered[t]);
            Checks.same("fault of " + t, x.transmitter(t, 2), 0);
            Checks.same("raw value of " + t, x.transmitter(t, 3), 65535);
        }
        x.setRaw(3, 11999);
        Checks.same("reading of a faulty one", x.transmitter(3, 0), -543);
        Checks.same("filtered value of a faulty one", x.transmitter(3, 1), 500);
        Checks.same("fault of a faulty one", x.transmitter(3, 2), 1);
        Checks.same("raw value of a faulty one", x.transmitter(3, 3), 11999);
        for (int wrong : Meters.WRONG_INDEXES) {
            Checks.refuses("transmitter(" + wrong + ", 0)", x, INDEX, () -> x.transmitter(wrong, 0));
            Checks.refuses("transmitter(0, " + wrong + ")", x, ARGUMENT, () -> x.transmitter(0, wrong));
        }
        Checks.refuses("transmitter(4, 0)", x, INDEX, () -> x.transmitter(4, 0));
        Checks.refuses("transmitter(3, 4)", x, ARGUMENT, () -> x.transmitter(3, 4));
        Checks.refuses("transmitter(4, 4)", x, INDEX, () -> x.transmitter(4, 4));
    }

    private static void presentValues() {
        FlowComputer x = Meters.flowing();
        Checks.same("differential before the first second", x.differential(), 0);
        Checks.same("flow before the first second", x.flow(), 0);
        x.run(1);
        Meters.show(x, 0, 400);
        Checks.same("differential of the last second", x.differential(), 1250);
        Checks.same("flow of the last second", x.flow(), 3535);
        Meters.fail(x, 0);
        Checks.same("range of the last second", x.range(), 0);
        x.setCutoff(4000, 4000);
        Checks.yes("flowing in the last second", x.isFlowing());
        x.run(1);
        Checks.same("range", x.range(), 1);
        Checks.yes("not flowing any more", !x.isFlowing());
        x.undo();
        Checks.yes("flowing after undo", x.isFlowing());
    }

    private static void density(FlowComputer x, int temperature, long due) {
        Meters.show(x, 3, temperature);
        x.run(1);
        Checks.same("density at " + temperature, x.density(), due);
    }

    private static void liquidDensity() {
        FlowComputer x = new FlowComputer();
        int[] values = {10000, 9999, 9000, 8000, 12000, 7};
        for (int i = 0; i < 6; i++) {
            x.setDensity(i, values[i]);
        }
        int[][] due = {{-500, 10000}, {-201, 10000}, {-200, 10000}, {-199, 9999}, {-1, 9999}, {0, 9999}, {1, 9994},
            {199, 9004}, {200, 9000}, {280, 8600}, {281, 8595}, {399, 8005}, {400, 8000}, {401, 8020}, {599, 11980},
            {600, 12000}, {601, 11940}, {799, 66}, {800, 7}, {801, 7}, {1500, 7}};
        for (int[] pair : due) {
            density(x, pair[0], pair[1]);
        }
        density(x, 200, 9000);
        x.setDensity(2, 1);
        Checks.same("density with the present table", x.density(), 1);
        Meters.show(x, 3, 0);
        Checks.same("density for the filtered value", x.density(), 1);
    }

    private static void gasDensity() {
        FlowComputer x = new FlowComputer();
        Meters.show(x, 2, 1000);
        density(x, 144, 10000);
        x.setMode(FlowComputer.GAS);
        Checks.same("density in the present mode", x.density(), 100938);
        x.setDensity(0, 12);
        Checks.same("density with the present value", x.density(), 121);
        Meters.show(x, 2, -1);
        density(x, 144, 0);
        Meters.show(x, 2, 0);
        density(x, 144, 0);
        Meters.show(x, 2, 10000);
        density(x, -500, 1560);
        x.setSpan(3, 30000);
        x.setSpan(2, 30000);
        x.setDensity(0, 20000);
        x.setRaw(2, 65535);
        x.setRaw(3, 12000);
        x.run(1);
        Checks.same("filtered temperature", x.transmitter(3, 1), -1134);
        Checks.same("the greatest density", x.density(), 10902868);
    }

    private static void totals() {
        FlowComputer x = Meters.flowing();
        x.setDensity(0, 5000);
        x.openBatch(1000000000, 0);
        x.run(3600);
        x.closeBatch();
        x.run(10);
        Checks.same("total mass", x.total(0), 3610L * 2500);
        Checks.same("total volume", x.total(1), 3610L * 5000);
        Checks.same("mass of the latest batch", x.total(2), 3600L * 2500);
        Checks.same("mass of the present hour", x.total(3), 10L * 2500);
        for (int wrong : new int[] {-1, 4, Integer.MIN_VALUE, Integer.MAX_VALUE}) {
            Checks.refuses("total(" + wrong + ")", x, ARGUMENT, () -> x.total(wrong));
        }
    }

    private static void flowFor(FlowComputer x, int differential, int pressure, int temperature, long due) {
        Checks.same("flowFor(" + differential + ", " + pressure + ", " + temperature + ")",
                x.flowFor(differential, pressure, temperature), due);
    }

    private static void flowForLiquid() {
        FlowComputer x = new FlowComputer();
        flowFor(x, 0, 0, 0, 0);
        flowFor(x, 1, 0, 0, 100);
        flowFor(x, 2, 0, 0, 141);
        flowFor(x, 30000, 30000, 3000, 17320);
        flowFor(x, 30000, 0, -500, 17320);
        x.setMeter(1);
        flowFor(x, 30000, 0, 0, 17);
        x.setMeter(100000);
        flowFor(x, 30000, 0, 0, 1732050);
        x.setDensity(5, 20000);
        flowFor(x, 30000, 0, 3000, 2449480);
        flowFor(x, 30000, 0, 600, 1732050);
        x.setDensity(0, 1);
        flowFor(x, 1, 0, -500, 100);
        flowFor(x, 30000, 0, -200, 17320);
        x.setCutoff(100000, 100000);
        x.run(1);
        flowFor(x, 1, 0, -500, 100);
    }

    private static void flowForGas() {
        FlowComputer x = new FlowComputer();
        x.setMode(FlowComputer.GAS);
        x.setDensity(0, 12);
        flowFor(x, 500, 5000, 200, 544);
        flowFor(x, 20000, 5000, 200, 3404);
        flowFor(x, 20000, 300, 200, 668);
        flowFor(x, 20000, 200, 200, 474);
        flowFor(x, 20000, 0, 200, 0);
        x.setDensity(0, 20000);
        flowFor(x, 30000, 30000, -500, 482423);
        x.setMeter(100000);
        flowFor(x, 30000, 30000, -500, 48242387);
        flowFor(x, 50, 1, -500, 9690);
        flowFor(x, 50, 2, -500, 14911);
        flowFor(x, 50, 0, -500, 0);
        x.setDensity(0, 12);
        flowFor(x, 1666, 5000, 200, 99470);
        flowFor(x, 1667, 5000, 200, 99400);
    }

    private static void flowForFactors() {
        FlowComputer x = new FlowComputer();
        int[] factors = {11000, 9000, 10000, 9500, 10500};
        for (int i = 0; i < 5; i++) {
            x.setFactor(i, factors[i]);
        }
        int[][] plain = {{0, 0}, {1, 108}, {25, 500}, {99, 895}, {100, 900}, {101, 903}, {400, 1900}, {900, 3000},
            {10000, 9500}, {30000, 17087}};
        for (int[] pair : plain) {
            flowFor(x, pair[0], 0, 0, pair[1]);
        }
        x.setMeter(5000);
        int[][] fast = {{99, 4903}, {100, 4928}, {2500, 25625}, {10000, 52500}, {30000, 90932}};
        for (int[] pair : fast) {
            flowFor(x, pair[0], 0, 0, pair[1]);
        }
        x.setMeter(3000);
        flowFor(x, 9999, 0, 0, 31494);
        flowFor(x, 10000, 0, 0, 31500);
    }

    private static void flowForRefused() {
        FlowComputer x = new FlowComputer();
        int[][] wrong = {{-1, 0, 0}, {30001, 0, 0}, {0, -1, 0}, {0, 30001, 0}, {0, 0, -501}, {0, 0, 3001},
            {Integer.MIN_VALUE, 0, 0}, {Integer.MAX_VALUE, 0, 0}, {0, Integer.MIN_VALUE, 0}, {0, Integer.MAX_VALUE, 0},
            {0, 0, Integer.MIN_VALUE}, {0, 0, Integer.MAX_VALUE}, {-1, -1, -501}};
        for (int[] triple : wrong) {
            Checks.refuses("flowFor(" + triple[0] + ", " + triple[1] + ", " + triple[2] + ")", x, ARGUMENT,
                    () -> x.flowFor(triple[0], triple[1], triple[2]));
        }
    }

    private static void differentialFor(FlowComputer x, long flow, int due) {
        Checks.same("differentialFor(" + flow + ")", x.differentialFor(flow), due);
    }

    private static void differentialFor() {
        FlowComputer x = new FlowComputer();
        differentialFor(x, 0, 0);
        differentialFor(x, 1, 1);
        differentialFor(x, 100, 1);
        differentialFor(x, 101, 2);
        differentialFor(x, 141, 2);
        differentialFor(x, 142, 3);
        differentialFor(x, 1000, 100);
        differentialFor(x, 17320, 29999);
        differentialFor(x, 17321, FlowComputer.NONE);
        differentialFor(x, 1000000000, FlowComputer.NONE);
        x.setMeter(10000);
        differentialFor(x, 173202, 29999);
        differentialFor(x, 173203, 30000);
        differentialFor(x, 173205, 30000);
        differentialFor(x, 173206, FlowComputer.NONE);
        x.setMeter(1000);
        x.setDensity(0, 1);
        Checks.same("with the present settings", x.differentialFor(100), 10000);
        Meters.show(x, 3, 0);
        Checks.same("with the filtered temperature", x.differentialFor(100), 10000);
        x.run(1);
        Checks.same("with the new filtered temperature", x.differentialFor(100), 1);
        x.setCutoff(100000, 100000);
        x.run(1);
        Checks.same("the cutoff does not matter", x.differentialFor(100), 1);
    }

    private static void differentialForGas() {
        FlowComputer x = new FlowComputer();
        x.setMode(FlowComputer.GAS);
        x.setDensity(0, 12);
        x.setMeter(100000);
        differentialFor(x, 0, 0);
        differentialFor(x, 1, FlowComputer.NONE);
        Meters.show(x, 2, 5000);
        Meters.show(x, 3, 200);
        x.run(1);
        differentialFor(x, 99470, 1666);
        differentialFor(x, 99401, 1664);
        differentialFor(x, 99471, 1670);
    }

    private static void differentialForRefused() {
        FlowComputer x = new FlowComputer();
        for (long wrong : new long[] {-1, 1000000001L, Long.MIN_VALUE, Long.MAX_VALUE, 1L << 32, -(1L << 32)}) {
            Checks.refuses("differentialFor(" + wrong + ")", x, ARGUMENT, () -> x.differentialFor(wrong));
        }
    }

    private static void questionsChangeNothing() {
        FlowComputer x = Meters.flowing();
        x.run(3600);
        x.setMode(FlowComputer.GAS);
        long before = x.digest();
        x.transmitter(0, 0);
        x.range();
        x.differential();
        x.density();
        x.flow();
        x.isFlowing();
        x.total(0);
        x.valve();
        x.flowFor(30000, 30000, 3000);
        x.differentialFor(5);
        x.hours();
        x.hour(0, 0);
        x.days();
        x.events();
        x.event(0, 0);
        Checks.same("digest after questions", x.digest(), before);
        Checks.same("undo after questions", x.undo(), 2);
    }
}
