/** Promise 1. */
final class NewObjectTest {
    private NewObjectTest() {
    }

    public static void main(String[] args) {
        values();
        settings();
        objectsAreApart();
        Checks.end();
    }

    private static void values() {
        FlowComputer x = new FlowComputer();
        for (int t = 0; t < 4; t++) {
            int due = t == 3 ? -500 : 0;
            Checks.same("reading of " + t, x.transmitter(t, 0), due);
            Checks.same("filtered value of " + t, x.transmitter(t, 1), due);
            Checks.same("fault of " + t, x.transmitter(t, 2), 0);
            Checks.same("raw value of " + t, x.transmitter(t, 3), 13107);
        }
        Checks.same("range", x.range(), 0);
        Checks.same("differential", x.differential(), 0);
        Checks.same("density", x.density(), 10000);
        Checks.same("flow", x.flow(), 0);
        Checks.yes("isFlowing", x.isFlowing());
        for (int what = 0; what < 4; what++) {
            Checks.same("total " + what, x.total(what), 0);
        }
        Checks.same("valve", x.valve(), 0);
        Checks.same("hours", x.hours(), 0);
        Checks.same("days", x.days(), 0);
        Checks.same("events", x.events(), 0);
        Checks.refuses("closeBatch without a batch", x, IllegalStateException.class, x::closeBatch);
        Checks.refuses("undo on an empty stack", x, IllegalStateException.class, x::undo);
    }

    private static void settings() {
        FlowComputer x = new FlowComputer();
        int[] spans = {2500, 25000, 10000, 2000};
        for (int t = 0; t < 4; t++) {
            Checks.same("span of " + t, x.setSpan(t, 100), spans[t]);
            Checks.same("damping of " + t, x.setDamping(t, 1), 0);
        }
        Checks.same("mode", x.setMode(FlowComputer.GAS), FlowComputer.LIQUID);
        for (int i = 0; i < 6; i++) {
            Checks.same("density " + i, x.setDensity(i, 1), 10000);
        }
        for (int i = 0; i < 5; i++) {
            Checks.same("factor " + i, x.setFactor(i, 9000), 10000);
        }
        Checks.same("meter constant", x.setMeter(1), 1000);
        Checks.same("off", x.setCutoff(1, 2), 0);
        Checks.same("contract hour", x.setContractHour(1), 0);
    }

    private static void objectsAreApart() {
        FlowComputer x = Meters.flowing();
        FlowComputer y = new FlowComputer();
        x.setFactor(0, 11000);
        x.setDensity(0, 5);
        x.run(3600);
        Checks.same("digest of another object", y.digest(), new FlowComputer().digest());
        Checks.same("hours of another object", y.hours(), 0);
        Checks.same("factor of another object", y.setFactor(0, 9000), 10000);
    }
}
