/** What several tests do with a flow computer. */
final class Meters {
    static final int[] WRONG_INDEXES = {-1, Integer.MIN_VALUE, Integer.MAX_VALUE};
    private static final int[] SPANS = {2500, 25000, 10000, 2000};

    private Meters() {
    }

    /** Sets the raw value that gives that reading with the first span of the transmitter. */
    static void show(FlowComputer x, int transmitter, int reading) {
        show(x, transmitter, reading, SPANS[transmitter]);
    }

    static void show(FlowComputer x, int transmitter, int reading, int span) {
        int offset = transmitter == 3 ? -500 : 0;
        int raw = 13107 - Math.floorDiv(-(reading - offset) * 52428, span);
        Checks.same("setRaw(" + transmitter + ", " + raw + ")", x.setRaw(transmitter, raw), reading);
    }

    static void fail(FlowComputer x, int transmitter) {
        x.setRaw(transmitter, 0);
    }

    static void repair(FlowComputer x, int transmitter) {
        x.setRaw(transmitter, 13107);
    }

    /** A new object that shows the differential pressure 1250: the flow is 3535 in each second. */
    static FlowComputer flowing() {
        FlowComputer x = new FlowComputer();
        show(x, 0, 1250);
        return x;
    }

    static void event(String what, FlowComputer x, int index, long time, long kind, long value) {
        Checks.yes(what + ": there is an event " + index, index < x.events());
        if (index < x.events()) {
            Checks.same(what + ": time of event " + index, x.event(index, 0), time);
            Checks.same(what + ": kind of event " + index, x.event(index, 1), kind);
            Checks.same(what + ": value of event " + index, x.event(index, 2), value);
        }
    }

    static void hour(String what, FlowComputer x, int index, long... due) {
        Checks.yes(what + ": there is an hour record " + index, index < x.hours());
        if (index < x.hours()) {
            for (int i = 0; i < due.length; i++) {
                Checks.same(what + ": hour(" + index + ", " + i + ")", x.hour(index, i), due[i]);
            }
        }
    }

    static void day(String what, FlowComputer x, int index, long... due) {
        Checks.yes(what + ": there is a day record " + index, index < x.days());
        if (index < x.days()) {
            for (int i = 0; i < due.length; i++) {
                Checks.same(what + ": day(" + index + ", " + i + ")", x.day(index, i), due[i]);
            }
        }
    }
}
