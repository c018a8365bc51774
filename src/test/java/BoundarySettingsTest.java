/** The boundary cases of promises 1 to 10: the new object, the settings and setRaw. */
final class BoundarySettingsTest {
    private static final Setter SPAN = new Setter("setSpan", FlowComputer::setSpan, 0, 100, 30000,
            2500, 25000, 10000, 2000);
    private static final Setter DAMPING = new Setter("setDamping", FlowComputer::setDamping, 1, 0, 8, 0, 0, 0, 0);
    private static final Setter MODE = new Setter("setMode", (x, i, v) -> x.setMode(v), 2, 0, 1, 0);
    private static final Setter DENSITY = new Setter("setDensity", FlowComputer::setDensity, 3, 1, 20000,
            10000, 10000, 10000, 10000, 10000, 10000);
    private static final Setter FACTOR = new Setter("setFactor", FlowComputer::setFactor, 4, 9000, 11000,
            10000, 10000, 10000, 10000, 10000);
    private static final Setter METER = new Setter("setMeter", (x, i, v) -> x.setMeter(v), 5, 1, 100000, 1000);
    private static final Setter HOUR = new Setter("setContractHour", (x, i, v) -> x.setContractHour(v), 7, 0, 23, 0);

    private BoundarySettingsTest() {
    }

    public static void main(String[] args) {
        Suite.run(BoundarySettingsTest.class);
    }

    static void promise1NoRecords() {
        FlowComputer x = new FlowComputer();
        Checks.same("hours", x.hours(), 0);
        Checks.same("days", x.days(), 0);
        Checks.refuses("hour(0, 0)", x, Refusals.INDEX, () -> x.hour(0, 0));
        Checks.refuses("day(0, 0)", x, Refusals.INDEX, () -> x.day(0, 0));
    }

    static void promise1NoEvents() {
        FlowComputer x = new FlowComputer();
        Checks.same("events", x.events(), 0);
        Checks.refuses("event(0, 0)", x, Refusals.INDEX, () -> x.event(0, 0));
    }

    static void promise1NoBatchAndTheValveClosed() {
        FlowComputer x = new FlowComputer();
        Checks.same("valve", x.valve(), 0);
        Checks.same("total(2)", x.total(2), 0);
        Checks.refuses("closeBatch", x, Refusals.STATE, x::closeBatch);
        Checks.same("openBatch", x.openBatch(1, 0), 1);
    }

    static void promise1NothingToUndo() {
        FlowComputer x = new FlowComputer();
        Checks.refuses("undo", x, Refusals.STATE, x::undo);
    }

    static void promise1TheFirstSecondShowsNothing() {
        FlowComputer x = new FlowComputer();
        Checks.same("run(1)", x.run(1), 0);
        Checks.same("events", x.events(), 0);
        Checks.same("range", x.range(), 0);
        Checks.same("differential", x.differential(), 0);
        Checks.yes("flowing", x.isFlowing());
        for (int t = 0; t < 4; t++) {
            Checks.same("filtered value of " + t, x.transmitter(t, 1), t == 3 ? -500 : 0);
        }
    }

    static void promise2LeastSpan() {
        SPAN.takesLeast();
    }

    static void promise2GreatestSpan() {
        SPAN.takesGreatest();
    }

    static void promise2SpanTooSmall() {
        SPAN.refusesTooSmall();
    }

    static void promise2SpanTooLarge() {
        SPAN.refusesTooLarge();
    }

    static void promise2NoSuchTransmitter() {
        SPAN.refusesIndexes();
    }

    static void promise2NoSuchTransmitterAndWrongSpan() {
        SPAN.refusesBoth();
    }

    static void promise2SameSpanAgain() {
        SPAN.countsTheSameAgain();
    }

    static void promise2ReadingsOfLeastSpan() {
        readings(100, -25, 0, 100);
    }

    static void promise2ReadingsOfGreatestSpan() {
        readings(30000, -7500, 0, 30000);
    }

    private static void readings(int span, int ofNothing, int ofZero, int ofAll) {
        FlowComputer x = new FlowComputer();
        for (int t = 0; t < 4; t++) {
            int offset = t == 3 ? -500 : 0;
            x.setSpan(t, span);
            Checks.same("reading of zero, " + t, x.transmitter(t, 0), offset + ofZero);
            x.setRaw(t, 0);
            Checks.same("reading of nothing, " + t, x.transmitter(t, 0), offset + ofNothing);
            x.setRaw(t, 65535);
            Checks.same("reading of all, " + t, x.transmitter(t, 0), offset + ofAll);
        }
    }

    static void promise3LeastDamping() {
        DAMPING.takesLeast();
    }

    static void promise3GreatestDamping() {
        DAMPING.takesGreatest();
    }

    static void promise3DampingTooSmall() {
        DAMPING.refusesTooSmall();
    }

    static void promise3DampingTooLarge() {
        DAMPING.refusesTooLarge();
    }

    static void promise3NoSuchTransmitter() {
        DAMPING.refusesIndexes();
    }

    static void promise3NoSuchTransmitterAndWrongDamping() {
        DAMPING.refusesBoth();
    }

    static void promise3SameDampingAgain() {
        DAMPING.countsTheSameAgain();
    }

    static void promise4Liquid() {
        MODE.takes(FlowComputer.LIQUID);
        FlowComputer x = new FlowComputer();
        x.setMode(FlowComputer.GAS);
        x.setMode(FlowComputer.LIQUID);
        Checks.same("density", x.density(), 10000);
    }

    static void promise4Gas() {
        MODE.takes(FlowComputer.GAS);
        FlowComputer x = new FlowComputer();
        x.setMode(FlowComputer.GAS);
        Checks.same("density", x.density(), 0);
    }

    static void promise4ModeTooSmall() {
        MODE.refusesTooSmall();
    }

    static void promise4ModeTooLarge() {
        MODE.refusesTooLarge();
    }

    static void promise4SameModeAgain() {
        MODE.countsTheSameAgain();
    }

    static void promise5LeastDensity() {
        DENSITY.takesLeast();
    }

    static void promise5GreatestDensity() {
        DENSITY.takesGreatest();
    }

    static void promise5DensityTooSmall() {
        DENSITY.refusesTooSmall();
    }

    static void promise5DensityTooLarge() {
        DENSITY.refusesTooLarge();
    }

    static void promise5NoSuchValue() {
        DENSITY.refusesIndexes();
    }

    static void promise5NoSuchValueAndWrongDensity() {
        DENSITY.refusesBoth();
    }

    static void promise5SameDensityAgain() {
        DENSITY.countsTheSameAgain();
    }

    static void promise6LeastFactor() {
        FACTOR.takesLeast();
    }

    static void promise6GreatestFactor() {
        FACTOR.takesGreatest();
    }

    static void promise6FactorTooSmall() {
        FACTOR.refusesTooSmall();
    }

    static void promise6FactorTooLarge() {
        FACTOR.refusesTooLarge();
    }

    static void promise6NoSuchFactor() {
        FACTOR.refusesIndexes();
    }

    static void promise6NoSuchFactorAndWrongFactor() {
        FACTOR.refusesBoth();
    }

    static void promise6SameFactorAgain() {
        FACTOR.countsTheSameAgain();
    }

    static void promise7LeastConstant() {
        METER.takesLeast();
        FlowComputer x = new FlowComputer();
        x.setMeter(1);
        Checks.same("flowFor(30000, 0, 0)", x.flowFor(30000, 0, 0), 17);
        Checks.same("flowFor(99, 0, 0)", x.flowFor(99, 0, 0), 0);
        Checks.same("flowFor(100, 0, 0)", x.flowFor(100, 0, 0), 1);
    }

    static void promise7GreatestConstant() {
        METER.takesGreatest();
        FlowComputer x = new FlowComputer();
        x.setMeter(100000);
        Checks.same("flowFor(30000, 0, 0)", x.flowFor(30000, 0, 0), 1732050);
    }

    static void promise7ConstantTooSmall() {
        METER.refusesTooSmall();
    }

    static void promise7ConstantTooLarge() {
        METER.refusesTooLarge();
    }

    static void promise7SameConstantAgain() {
        METER.countsTheSameAgain();
    }

    static void promise8LeastOffAndOn() {
        cutoffTaken(0, 0);
    }

    static void promise8LeastOffAndGreatestOn() {
        cutoffTaken(0, 100000);
    }

    static void promise8GreatestOffAndOn() {
        cutoffTaken(100000, 100000);
    }

    static void promise8OffEqualToOn() {
        cutoffTaken(1, 1);
        cutoffTaken(5000, 5000);
    }

    static void promise8OffJustBelowOn() {
        cutoffTaken(0, 1);
        cutoffTaken(99999, 100000);
    }

    private static void cutoffTaken(int off, int on) {
        String what = "setCutoff(" + off + ", " + on + ")";
        FlowComputer x = new FlowComputer();
        Checks.same(what, x.setCutoff(off, on), 0);
        Checks.same(what + ": events", x.events(), 1);
        Meters.event(what, x, 0, 0, FlowComputer.CONFIGURATION, 6);
        Checks.same(what + ", the next call", x.setCutoff(0, 0), off);
        Checks.same(what + ": undo", x.undo(), 1);
        Checks.same(what + ", the next call once more", x.setCutoff(7, 7), off);
    }

    static void promise8OffTooSmall() {
        cutoffRefused(-1, 0);
        cutoffRefused(-1, 100000);
        cutoffRefused(-1, -1);
        cutoffRefused(Integer.MIN_VALUE, 0);
    }

    static void promise8OffAboveOn() {
        cutoffRefused(1, 0);
        cutoffRefused(5001, 5000);
        cutoffRefused(100000, 99999);
        cutoffRefused(100001, 100000);
        cutoffRefused(Integer.MAX_VALUE, 0);
    }

    static void promise8OnTooSmall() {
        cutoffRefused(0, -1);
        cutoffRefused(0, Integer.MIN_VALUE);
        cutoffRefused(Integer.MIN_VALUE, Integer.MIN_VALUE);
    }

    static void promise8OnTooLarge() {
        cutoffRefused(0, 100001);
        cutoffRefused(100000, 100001);
        cutoffRefused(100001, 100001);
        cutoffRefused(0, Integer.MAX_VALUE);
    }

    private static void cutoffRefused(int off, int on) {
        Refusals.everywhere("setCutoff(" + off + ", " + on + ")", Refusals.ARGUMENT, x -> x.setCutoff(off, on));
    }

    static void promise8SameCutoffAgain() {
        FlowComputer x = new FlowComputer();
        x.setCutoff(3, 4);
        x.run(1);
        long before = x.digest();
        Checks.same("setCutoff(3, 4)", x.setCutoff(3, 4), 3);
        Meters.event("the same again", x, 1, 1, FlowComputer.CONFIGURATION, 6);
        Checks.same("undo", x.undo(), 2);
        Checks.same("digest", x.digest(), before);
    }

    static void promise9LeastHour() {
        HOUR.takesLeast();
        FlowComputer x = new FlowComputer();
        x.setContractHour(0);
        dayEndsAfter(x, 24);
    }

    static void promise9GreatestHour() {
        HOUR.takesGreatest();
        FlowComputer x = new FlowComputer();
        x.setContractHour(23);
        dayEndsAfter(x, 23);
    }

    private static void dayEndsAfter(FlowComputer x, int hours) {
        for (int i = 1; i < hours; i++) {
            x.run(3600);
        }
        x.run(3599);
        Checks.same("days a second before", x.days(), 0);
        x.run(1);
        Checks.same("days", x.days(), 1);
    }

    static void promise9HourTooSmall() {
        HOUR.refusesTooSmall();
    }

    static void promise9HourTooLarge() {
        HOUR.refusesTooLarge();
    }

    static void promise9SameHourAgain() {
        HOUR.countsTheSameAgain();
    }

    static void promise10LeastRaw() {
        rawTaken(0, -625, -6250, -2500, -1000);
    }

    static void promise10GreatestRaw() {
        rawTaken(65535, 2500, 25000, 10000, 1500);
    }

    static void promise10RawOfTheOffset() {
        rawTaken(13107, 0, 0, 0, -500);
    }

    /** Floor: one step below the offset is a whole one down, one step above it is none. */
    static void promise10RawBesideTheOffset() {
        rawTaken(13106, -1, -1, -1, -501);
        rawTaken(13108, 0, 0, 0, -500);
    }

    static void promise10RawBesideTheGreatest() {
        rawTaken(65534, 2499, 24999, 9999, 1499);
        rawTaken(1, -625, -6250, -2500, -1000);
        rawTaken(4, -625, -6249, -2500, -1000);
    }

    private static void rawTaken(int raw, int... readings) {
        FlowComputer x = new FlowComputer();
        for (int t = 0; t < 4; t++) {
            String what = "setRaw(" + t + ", " + raw + ")";
            Checks.same(what, x.setRaw(t, raw), readings[t]);
            Checks.same(what + ": reading", x.transmitter(t, 0), readings[t]);
            Checks.same(what + ": raw value", x.transmitter(t, 3), raw);
            Checks.same(what + ": filtered value", x.transmitter(t, 1), t == 3 ? -500 : 0);
        }
        for (int t = 0; t < 4; t++) {
            Checks.same("raw value of " + t + " after all", x.transmitter(t, 3), raw);
        }
    }

    static void promise10RawTooSmall() {
        rawRefused(Refusals.ARGUMENT, 0, -1);
        rawRefused(Refusals.ARGUMENT, 3, -1);
        rawRefused(Refusals.ARGUMENT, 0, Integer.MIN_VALUE);
    }

    static void promise10RawTooLarge() {
        rawRefused(Refusals.ARGUMENT, 0, 65536);
        rawRefused(Refusals.ARGUMENT, 3, 65536);
        rawRefused(Refusals.ARGUMENT, 0, Integer.MAX_VALUE);
    }

    static void promise10NoSuchTransmitter() {
        rawRefused(Refusals.INDEX, -1, 0);
        rawRefused(Refusals.INDEX, 4, 65535);
        rawRefused(Refusals.INDEX, Integer.MIN_VALUE, 0);
        rawRefused(Refusals.INDEX, Integer.MAX_VALUE, 0);
    }

    static void promise10NoSuchTransmitterAndWrongRaw() {
        rawRefused(Refusals.INDEX, -1, -1);
        rawRefused(Refusals.INDEX, 4, 65536);
    }

    private static void rawRefused(Class<?> due, int transmitter, int raw) {
        Refusals.everywhere("setRaw(" + transmitter + ", " + raw + ")", due, x -> x.setRaw(transmitter, raw));
    }

    static void promise10NoSetting() {
        FlowComputer x = new FlowComputer();
        x.setRaw(0, 0);
        x.setRaw(0, 65535);
        Checks.same("events", x.events(), 0);
    }

    static void promise10SameRawAgain() {
        FlowComputer x = new FlowComputer();
        long before = x.digest();
        Checks.same("setRaw(3, 13107)", x.setRaw(3, 13107), -500);
        Checks.same("undo", x.undo(), 0);
        Checks.same("digest", x.digest(), before);
    }
}
