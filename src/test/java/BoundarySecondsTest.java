/** The boundary cases of promise 11: run, and what the description says of each second. */
final class BoundarySecondsTest {
    private static final int FAULT = FlowComputer.FAULT;
    private static final int CLEAR = FlowComputer.CLEAR;
    private static final int SWITCH = FlowComputer.SWITCH;
    private static final int HELD = FlowComputer.HELD;
    private static final int SOUND = 12000;
    private static final int FAULTY = 11999;

    private BoundarySecondsTest() {
    }

    public static void main(String[] args) {
        Suite.run(BoundarySecondsTest.class);
    }

    // ---- the argument and the answer

    static void promise11LeastSeconds() {
        FlowComputer x = Meters.flowing();
        Checks.same("run(1)", x.run(1), 3535);
        timeIs(x, 1);
    }

    static void promise11GreatestSeconds() {
        FlowComputer x = Meters.flowing();
        Checks.same("run(20000)", x.run(20000), 20000 * 3535);
        timeIs(x, 20000);
    }

    private static void timeIs(FlowComputer x, long due) {
        x.setMode(FlowComputer.LIQUID);
        Checks.same("time", x.event(x.events() - 1, 0), due);
    }

    static void promise11TooFewSeconds() {
        for (int seconds : new int[] {0, -1, Integer.MIN_VALUE}) {
            Refusals.everywhere("run(" + seconds + ")", Refusals.ARGUMENT, x -> x.run(seconds));
        }
    }

    static void promise11TooManySeconds() {
        for (int seconds : new int[] {20001, Integer.MAX_VALUE}) {
            Refusals.everywhere("run(" + seconds + ")", Refusals.ARGUMENT, x -> x.run(seconds));
        }
    }

    static void promise11OnlyTheIncreaseIsReturned() {
        FlowComputer x = Meters.flowing();
        x.run(5);
        Checks.same("run(2)", x.run(2), 2 * 3535);
        Meters.show(x, 0, 0);
        Checks.same("run(1) without flow", x.run(1), 0);
        Checks.same("total(0)", x.total(0), 7 * 3535);
    }

    /** The same seconds in one call and in many give the same, but for the saved states. */
    static void promise11ManySecondsAreManyTimesOne() {
        FlowComputer x = Prepared.FULL.make();
        FlowComputer y = Prepared.FULL.make();
        x.run(60);
        for (int i = 0; i < 60; i++) {
            y.run(1);
        }
        Answers.same("60 seconds", Answers.of(y), Answers.of(x));
    }

    /** 512 calls are promised; the totals of a great flow for all of them fit into a long. */
    static void promise11TheGreatestLiquidFlowForAllCalls() {
        FlowComputer x = greatestLiquid();
        int calls = 512 - 18;
        for (int i = 0; i < calls; i++) {
            Checks.same("run(20000)", x.run(20000), 20000L * 2694428);
        }
        Checks.same("total(0)", x.total(0), 20000L * 2694428 * calls);
        Checks.same("total(1)", x.total(1), 20000L * 1347214 * calls);
        Checks.same("total(3)", x.total(3), 2694428L * (20000L * calls % 3600));
        Checks.same("hour(23, 0)", x.hour(23, 0), 2694428L * 3600);
        Checks.same("day(4, 0)", x.day(4, 0), 2694428L * 86400);
    }

    private static FlowComputer greatestLiquid() {
        FlowComputer x = new FlowComputer();
        x.setDensity(0, 20000);
        x.setFactor(4, 11000);
        x.setMeter(100000);
        x.setSpan(1, 30000);
        x.setRaw(0, 65535);
        x.setRaw(1, 65535);
        return x;
    }

    static void promise11TheGreatestGasFlow() {
        FlowComputer x = greatestLiquid();
        x.setMode(FlowComputer.GAS);
        x.setSpan(2, 30000);
        x.setSpan(3, 30000);
        x.setRaw(2, 65535);
        x.setRaw(3, SOUND);
        Checks.same("run(1)", x.run(1), 62721840);
        Checks.same("density", x.density(), 10902868);
        Checks.same("run(20000)", x.run(20000), 20000L * 62721840);
        Checks.same("volume of a second", x.total(1) / 20001, 10000L * 62721840 / 10902868);
    }

    // ---- (1) the time

    static void promise11TheTimeBeginsAt0() {
        timeIs(new FlowComputer(), 0);
    }

    static void promise11TheFirstSecondHasTheTime1() {
        FlowComputer x = new FlowComputer();
        x.setRaw(2, FAULTY);
        x.run(1);
        Meters.event("the first second", x, 0, 1, FAULT, 2);
    }

    // ---- (2) faults and filters

    static void promise11LeastSoundRaw() {
        for (int t = 0; t < 4; t++) {
            FlowComputer x = new FlowComputer();
            int reading = x.setRaw(t, SOUND);
            Checks.same("fault of " + t, x.transmitter(t, 2), 0);
            x.run(1);
            Checks.same("events", x.events(), 0);
            Checks.same("filtered value of " + t, x.transmitter(t, 1), reading);
        }
    }

    static void promise11GreatestFaultyRaw() {
        for (int t = 0; t < 4; t++) {
            faulty(t, FAULTY);
        }
    }

    static void promise11LeastFaultyRaw() {
        for (int t = 0; t < 4; t++) {
            faulty(t, 0);
        }
    }

    private static void faulty(int t, int raw) {
        FlowComputer x = new FlowComputer();
        x.setRaw(t, raw);
        Checks.same("fault of " + t, x.transmitter(t, 2), 1);
        x.run(1);
        Meters.event("fault of " + t, x, 0, 1, FAULT, t);
        Checks.same("events", x.events(), t == 0 ? 2 : 1);
        Checks.same("filtered value of " + t, x.transmitter(t, 1), t == 3 ? -500 : 0);
    }

    static void promise11NoClearOfWhatWasNeverFaulty() {
        FlowComputer x = new FlowComputer();
        x.run(100);
        Checks.same("events", x.events(), 0);
    }

    static void promise11AFaultIsLoggedOnce() {
        FlowComputer x = new FlowComputer();
        x.setRaw(3, FAULTY);
        x.run(1);
        x.run(20000);
        x.setRaw(3, 0);
        x.run(1);
        Checks.same("events", x.events(), 1);
    }

    static void promise11AClearIsLoggedOnce() {
        FlowComputer x = new FlowComputer();
        x.setRaw(3, FAULTY);
        x.run(1);
        x.setRaw(3, SOUND);
        x.run(20000);
        x.run(1);
        Checks.same("events", x.events(), 2);
        Meters.event("clear", x, 1, 2, CLEAR, 3);
    }

    static void promise11AFaultBetweenTwoSecondsIsNone() {
        FlowComputer x = new FlowComputer();
        x.setRaw(2, FAULTY);
        x.setRaw(2, SOUND);
        x.run(1);
        x.setRaw(2, FAULTY);
        x.setRaw(2, SOUND);
        x.run(1);
        Checks.same("events", x.events(), 0);
    }

    static void promise11ASoundMomentBetweenTwoSecondsIsNone() {
        FlowComputer x = new FlowComputer();
        x.setRaw(2, FAULTY);
        x.run(1);
        x.setRaw(2, SOUND);
        x.setRaw(2, FAULTY);
        x.run(1);
        Checks.same("events", x.events(), 1);
    }

    static void promise11AllFaultsAndClearsInAscendingOrder() {
        FlowComputer x = new FlowComputer();
        for (int t = 3; t >= 0; t--) {
            x.setRaw(t, FAULTY);
        }
        x.run(1);
        for (int t = 3; t >= 0; t--) {
            x.setRaw(t, SOUND);
        }
        x.run(1);
        Checks.same("events", x.events(), 8);
        for (int t = 0; t < 4; t++) {
            Meters.event("fault", x, t, 1, FAULT, t);
            Meters.event("clear", x, 4 + t, 2, CLEAR, t);
        }
    }

    static void promise11AFaultAndAClearInOneSecond() {
        FlowComputer x = new FlowComputer();
        x.setRaw(3, FAULTY);
        x.run(1);
        x.setRaw(3, SOUND);
        x.setRaw(2, FAULTY);
        x.run(1);
        Checks.same("events", x.events(), 3);
        Meters.event("fault", x, 1, 2, FAULT, 2);
        Meters.event("clear", x, 2, 2, CLEAR, 3);
    }

    static void promise11NoFilterWhileFaulty() {
        FlowComputer x = new FlowComputer();
        Meters.show(x, 2, 500);
        x.run(1);
        x.setRaw(2, FAULTY);
        x.run(20000);
        Checks.same("filtered value", x.transmitter(2, 1), 500);
    }

    static void promise11TheFilterGoesOnInTheSecondOfTheClear() {
        FlowComputer x = new FlowComputer();
        x.setRaw(2, FAULTY);
        x.run(1);
        Meters.show(x, 2, 700);
        x.run(1);
        Checks.same("filtered value", x.transmitter(2, 1), 700);
    }

    static void promise11LeastDampingTakesTheWholeReading() {
        filtered(0, 0, 1, 1);
        filtered(0, 0, 9000, 9000);
        filtered(0, 9000, 0, 0);
        filtered(0, 0, -1, -1);
    }

    static void promise11DampingOfOneHalf() {
        filtered(1, 0, 1, 0);
        filtered(1, 0, 2, 1);
        filtered(1, 0, 3, 1);
        filtered(1, 3, 2, 2);
        filtered(1, 3, 0, 1);
    }

    static void promise11GreatestDampingRisesByWholeSteps() {
        filtered(8, 0, 255, 0);
        filtered(8, 0, 256, 1);
        filtered(8, 0, 511, 1);
        filtered(8, 0, 512, 2);
    }

    /** Rounded towards minus infinity: each difference below 0 is at least one step down. */
    static void promise11GreatestDampingFallsByStartedSteps() {
        filtered(8, 1000, 999, 999);
        filtered(8, 1000, 744, 999);
        filtered(8, 1000, 743, 998);
        filtered(8, 1000, 488, 998);
        filtered(8, 1000, 487, 997);
    }

    static void promise11NoDifferenceNoStep() {
        for (int damping = 0; damping <= 8; damping++) {
            filtered(damping, 1000, 1000, 1000);
        }
    }

    private static void filtered(int damping, int from, int reading, int due) {
        for (int t = 0; t < 4; t++) {
            FlowComputer x = new FlowComputer();
            x.setSpan(t, 10000);
            Meters.show(x, t, from, 10000);
            x.run(1);
            x.setDamping(t, damping);
            Meters.show(x, t, reading, 10000);
            x.run(1);
            Checks.same("transmitter " + t + ", damping " + damping + " from " + from + " to " + reading,
                    x.transmitter(t, 1), due);
        }
    }

    // ---- (3) the range in use

    static void promise11LowRangeBelow95Percent() {
        rangeOfLow(2500, 2374, 0);
        rangeOfLow(100, 94, 0);
        rangeOfLow(30000, 28499, 0);
    }

    static void promise11LowRangeAt95Percent() {
        rangeOfLow(2500, 2375, 1);
        rangeOfLow(100, 95, 1);
        rangeOfLow(30000, 28500, 1);
    }

    static void promise11The95PercentAreRoundedDown() {
        rangeOfLow(2501, 2374, 0);
        rangeOfLow(2501, 2375, 1);
        rangeOfLow(119, 112, 0);
        rangeOfLow(119, 113, 1);
    }

    private static void rangeOfLow(int span, int reading, int due) {
        FlowComputer x = new FlowComputer();
        x.setSpan(0, span);
        Meters.show(x, 0, reading, span);
        x.run(1);
        String what = "span " + span + ", low " + reading;
        Checks.same(what + ": range", x.range(), due);
        Checks.same(what + ": differential", x.differential(), due == 0 ? reading : 0);
        Checks.same(what + ": events", x.events(), 1 + due);
        if (due == 1) {
            Meters.event(what, x, 1, 1, SWITCH, 1);
        }
    }

    static void promise11HighRangeAt90Percent() {
        rangeOfHigh(2500, 2250, 1);
        rangeOfHigh(100, 90, 1);
        rangeOfHigh(30000, 27000, 1);
    }

    static void promise11HighRangeBelow90Percent() {
        rangeOfHigh(2500, 2249, 0);
        rangeOfHigh(100, 89, 0);
        rangeOfHigh(30000, 26999, 0);
    }

    static void promise11The90PercentAreRoundedDown() {
        rangeOfHigh(2501, 2250, 1);
        rangeOfHigh(2501, 2249, 0);
        rangeOfHigh(119, 107, 1);
        rangeOfHigh(119, 106, 0);
    }

    /** The limit is a share of the low span; the span of the high one is 30000 here. */
    private static void rangeOfHigh(int lowSpan, int reading, int due) {
        FlowComputer x = new FlowComputer();
        x.setSpan(0, lowSpan);
        x.setSpan(1, 30000);
        x.setRaw(0, 65535);
        x.setRaw(1, 65535);
        x.run(1);
        Checks.same("range at first", x.range(), 1);
        Meters.show(x, 0, 1, lowSpan);
        Meters.show(x, 1, reading, 30000);
        x.run(1);
        String what = "low span " + lowSpan + ", high " + reading;
        Checks.same(what + ": range", x.range(), due);
        Checks.same(what + ": differential", x.differential(), due == 0 ? 1 : reading);
        Checks.same(what + ": events", x.events(), 4 - due);
        if (due == 0) {
            Meters.event(what, x, 3, 2, SWITCH, 0);
        }
    }

    static void promise11TheRangeChangesOnceInASecond() {
        FlowComputer x = new FlowComputer();
        Meters.show(x, 0, 2375);
        for (int i = 1; i <= 6; i++) {
            x.run(1);
            Checks.same("range in second " + i, x.range(), i % 2);
            Checks.same("events in second " + i, x.events(), i);
            Meters.event("each second", x, i - 1, i, SWITCH, i % 2);
        }
    }

    static void promise11BothFaultyInTheLowRange() {
        FlowComputer x = new FlowComputer();
        Meters.show(x, 0, 2374);
        x.run(1);
        x.setSpan(0, 100);
        x.setRaw(0, FAULTY);
        x.setRaw(1, FAULTY);
        x.run(20);
        Checks.same("range", x.range(), 0);
    }

    static void promise11BothFaultyInTheHighRange() {
        FlowComputer x = new FlowComputer();
        x.setRaw(0, FAULTY);
        x.run(1);
        x.setRaw(1, FAULTY);
        x.run(20);
        Checks.same("range", x.range(), 1);
        Checks.same("events", x.events(), 4);
    }

    static void promise11OnlyLowFaultyInTheLowRange() {
        FlowComputer x = new FlowComputer();
        x.setRaw(0, FAULTY);
        x.run(1);
        Checks.same("range", x.range(), 1);
        Meters.event("low is faulty", x, 0, 1, FAULT, 0);
        Meters.event("low is faulty", x, 1, 1, SWITCH, 1);
    }

    static void promise11OnlyLowFaultyInTheHighRange() {
        FlowComputer x = highRange();
        x.setRaw(0, FAULTY);
        Meters.show(x, 1, 2249);
        x.run(5);
        Checks.same("range", x.range(), 1);
        Checks.same("differential", x.differential(), 2249);
        Checks.same("events", x.events(), 2);
    }

    static void promise11OnlyHighFaultyInTheHighRange() {
        FlowComputer x = highRange();
        x.setRaw(1, FAULTY);
        x.run(5);
        Checks.same("range", x.range(), 0);
        Checks.same("differential", x.differential(), 2500);
        Meters.event("high is faulty", x, 2, 2, SWITCH, 0);
        Checks.same("events", x.events(), 3);
    }

    static void promise11OnlyHighFaultyInTheLowRange() {
        FlowComputer x = new FlowComputer();
        x.setRaw(0, 65535);
        x.setRaw(1, FAULTY);
        x.run(5);
        Checks.same("range", x.range(), 0);
        Checks.same("events", x.events(), 1);
        x.setRaw(1, SOUND);
        x.run(1);
        Checks.same("range when both are sound", x.range(), 1);
    }

    private static FlowComputer highRange() {
        FlowComputer x = new FlowComputer();
        x.setRaw(0, 65535);
        x.setRaw(1, 65535);
        x.run(1);
        Checks.same("high range", x.range(), 1);
        return x;
    }

    static void promise11TheFilteredValueChoosesTheRange() {
        FlowComputer x = new FlowComputer();
        x.setDamping(0, 1);
        x.setRaw(0, 65535);
        int[] filtered = {1250, 1875, 2187, 2343, 2421};
        for (int i = 0; i < filtered.length; i++) {
            x.run(1);
            Checks.same("filtered value", x.transmitter(0, 1), filtered[i]);
            Checks.same("range at " + filtered[i], x.range(), i < 4 ? 0 : 1);
        }
    }

    // ---- (4) the held seconds and the differential pressure

    static void promise11TenHeldSeconds() {
        FlowComputer x = bothFaulty();
        Checks.same("run(10)", x.run(10), 35350);
        Checks.same("differential", x.differential(), 1250);
        Checks.same("events", x.events(), 2);
    }

    static void promise11ElevenHeldSeconds() {
        FlowComputer x = bothFaulty();
        Checks.same("run(11)", x.run(11), 35350);
        Checks.same("differential", x.differential(), 0);
        Checks.same("flow", x.flow(), 0);
        Checks.same("events", x.events(), 3);
        Meters.event("held", x, 2, 12, HELD, 0);
    }

    static void promise11TwelveHeldSeconds() {
        FlowComputer x = bothFaulty();
        Checks.same("run(12)", x.run(12), 35350);
        Checks.same("differential", x.differential(), 0);
        Checks.same("events", x.events(), 3);
    }

    static void promise11ManyHeldSeconds() {
        FlowComputer x = bothFaulty();
        x.run(20000);
        Checks.same("run(20000)", x.run(20000), 0);
        Checks.same("differential", x.differential(), 0);
        Checks.same("events", x.events(), 3);
    }

    static void promise11HeldFromTheFirstSecond() {
        FlowComputer x = new FlowComputer();
        x.setRaw(0, FAULTY);
        x.setRaw(1, FAULTY);
        x.run(10);
        Checks.same("events of ten", x.events(), 2);
        Checks.same("differential", x.differential(), 0);
        x.run(1);
        Meters.event("held", x, 2, 11, HELD, 0);
    }

    static void promise11HeldSecondsGoOnInTheNextCall() {
        FlowComputer x = bothFaulty();
        for (int i = 0; i < 10; i++) {
            Checks.same("run(1)", x.run(1), 3535);
        }
        Checks.same("the eleventh", x.run(1), 0);
    }

    static void promise11HeldSecondsBeginAnewAfterLowWasSound() {
        FlowComputer x = bothFaulty();
        x.run(10);
        Meters.show(x, 0, 1250);
        x.run(1);
        x.setRaw(0, FAULTY);
        Checks.same("ten more", x.run(10), 35350);
        Checks.same("the eleventh", x.run(1), 0);
    }

    static void promise11HeldSecondsBeginAnewAfterHighWasSound() {
        FlowComputer x = bothFaulty();
        x.run(10);
        Meters.show(x, 1, 400);
        Checks.same("the high one", x.run(1), 2000);
        x.setRaw(1, FAULTY);
        Checks.same("ten more", x.run(10), 20000);
        Checks.same("the eleventh", x.run(1), 0);
    }

    static void promise11ASoundMomentBetweenTwoHeldSecondsIsNone() {
        FlowComputer x = bothFaulty();
        x.run(10);
        Meters.show(x, 0, 1250);
        x.setRaw(0, FAULTY);
        Checks.same("the eleventh", x.run(1), 0);
    }

    static void promise11HeldIsLoggedEachTime() {
        FlowComputer x = bothFaulty();
        x.run(11);
        Meters.show(x, 0, 1250);
        Checks.same("a sound one", x.run(1), 3535);
        x.setRaw(0, FAULTY);
        x.run(11);
        Checks.same("events", x.events(), 6);
        Meters.event("the first time", x, 2, 12, HELD, 0);
        Meters.event("clear", x, 3, 13, CLEAR, 0);
        Meters.event("fault", x, 4, 14, FAULT, 0);
        Meters.event("the second time", x, 5, 24, HELD, 0);
    }

    private static FlowComputer bothFaulty() {
        FlowComputer x = Meters.flowing();
        x.run(1);
        x.setRaw(0, FAULTY);
        x.setRaw(1, FAULTY);
        return x;
    }

    static void promise11DifferentialOfLowBelowZero() {
        differentialOfLow(-1, 0);
        differentialOfLow(-52, 0);
    }

    static void promise11DifferentialOfLowAtZeroAndAbove() {
        differentialOfLow(0, 0);
        differentialOfLow(1, 1);
    }

    private static void differentialOfLow(int reading, int due) {
        FlowComputer x = new FlowComputer();
        Meters.show(x, 0, reading);
        x.run(1);
        Checks.same("filtered value", x.transmitter(0, 1), reading);
        Checks.same("differential of " + reading, x.differential(), due);
        Checks.same("flow of " + reading, x.flow(), 100 * due);
    }

    static void promise11DifferentialOfHighBelowZero() {
        differentialOfHigh(-1, 0);
        differentialOfHigh(-528, 0);
    }

    static void promise11DifferentialOfHighAtZeroAndAbove() {
        differentialOfHigh(0, 0);
        differentialOfHigh(1, 1);
    }

    private static void differentialOfHigh(int reading, int due) {
        FlowComputer x = new FlowComputer();
        x.setRaw(0, FAULTY);
        Meters.show(x, 1, reading);
        x.run(1);
        Checks.same("differential of " + reading, x.differential(), due);
        Checks.same("flow of " + reading, x.flow(), 100 * due);
    }

    // ---- (6) the cutoff

    static void promise11FlowEqualToOffGoesOn() {
        FlowComputer x = Meters.flowing();
        x.setCutoff(3535, 100000);
        flows(x, true);
    }

    static void promise11FlowOneBelowOffStops() {
        FlowComputer x = Meters.flowing();
        x.setCutoff(3536, 100000);
        flows(x, false);
    }

    static void promise11FlowEqualToOnBeginsAgain() {
        FlowComputer x = stopped();
        x.setCutoff(3535, 3535);
        flows(x, true);
    }

    static void promise11FlowOneBelowOnStaysStopped() {
        FlowComputer x = stopped();
        x.setCutoff(0, 3536);
        flows(x, false);
    }

    static void promise11FlowBetweenOffAndOnStaysAsItIs() {
        FlowComputer x = stopped();
        x.setCutoff(3000, 4000);
        flows(x, false);
        x.setCutoff(3000, 3000);
        flows(x, true);
        x.setCutoff(3000, 4000);
        flows(x, true);
    }

    private static FlowComputer stopped() {
        FlowComputer x = Meters.flowing();
        x.setCutoff(100000, 100000);
        flows(x, false);
        return x;
    }

    private static void flows(FlowComputer x, boolean due) {
        Checks.same("run(1)", x.run(1), due ? 3535 : 0);
        Checks.same("flow", x.flow(), due ? 3535 : 0);
        Checks.yes("isFlowing is " + due, x.isFlowing() == due);
    }

    static void promise11OffOfZeroNeverStops() {
        FlowComputer x = new FlowComputer();
        x.setCutoff(0, 100000);
        x.run(20000);
        Checks.yes("flowing without flow", x.isFlowing());
    }

    static void promise11OffOfOneStopsWithoutFlow() {
        FlowComputer x = new FlowComputer();
        x.setCutoff(1, 1);
        x.run(1);
        Checks.yes("not flowing", !x.isFlowing());
    }

    static void promise11OnOfZeroBeginsWithoutFlow() {
        FlowComputer x = new FlowComputer();
        x.setCutoff(1, 1);
        x.run(1);
        x.setCutoff(0, 0);
        Checks.yes("not before the next second", !x.isFlowing());
        x.run(1);
        Checks.yes("flowing without flow", x.isFlowing());
        Checks.same("flow", x.flow(), 0);
    }

    static void promise11GreatestOffAndOn() {
        FlowComputer x = new FlowComputer();
        x.setSpan(0, 30000);
        x.setMeter(10000);
        x.setCutoff(100000, 100000);
        Meters.show(x, 0, 10000, 30000);
        Checks.same("flow equal to off", x.run(1), 100000);
        Meters.show(x, 0, 9999, 30000);
        Checks.same("flow below off", x.run(1), 0);
        Meters.show(x, 0, 10000, 30000);
        Checks.same("flow equal to on", x.run(1), 100000);
    }

    // ---- (7) the totals

    static void promise11NoVolumeAtTheDensityZero() {
        FlowComputer x = lightGas(100);
        Checks.same("flow", x.run(1), 0);
        Checks.same("density", x.density(), 0);
        Checks.same("volume", x.total(1), 0);
        Checks.yes("it is flowing all the same", x.isFlowing());
    }

    static void promise11VolumeAtTheDensityOne() {
        FlowComputer x = lightGas(101);
        Checks.same("flow", x.run(1), 33);
        Checks.same("density", x.density(), 1);
        Checks.same("volume", x.total(1), 330000);
    }

    /** With this density value and temperature a density of 1 begins at the pressure 101. */
    private static FlowComputer lightGas(int pressure) {
        FlowComputer x = Meters.flowing();
        x.setMode(FlowComputer.GAS);
        x.setDensity(0, 1);
        Meters.show(x, 2, pressure);
        Meters.show(x, 3, 200);
        return x;
    }

    static void promise11VolumeIsRoundedDownInEachSecond() {
        FlowComputer x = Meters.flowing();
        x.setDensity(0, 3);
        x.run(3);
        Checks.same("mass", x.total(0), 3 * 61);
        Checks.same("volume", x.total(1), 3 * 203333);
    }

    static void promise11NoVolumeWhenNotFlowing() {
        FlowComputer x = stopped();
        x.run(100);
        Checks.same("mass", x.total(0), 0);
        Checks.same("volume", x.total(1), 0);
    }
}
