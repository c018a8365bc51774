/** The boundary cases of promises 14 to 23: the values, the density and the flow. */
final class BoundaryValuesTest {
    private static final int MOST = 1000000000;

    private BoundaryValuesTest() {
    }

    public static void main(String[] args) {
        Suite.run(BoundaryValuesTest.class);
    }

    // ---- transmitter

    static void promise14FirstAndLastTransmitter() {
        FlowComputer x = new FlowComputer();
        x.setRaw(0, 65535);
        x.setRaw(3, 11999);
        transmitterTells(x, 0, 2500, 0, 0, 65535);
        transmitterTells(x, 3, -543, -500, 1, 11999);
        x.run(1);
        transmitterTells(x, 0, 2500, 2500, 0, 65535);
        transmitterTells(x, 3, -543, -500, 1, 11999);
    }

    private static void transmitterTells(FlowComputer x, int transmitter, int... due) {
        for (int what = 0; what < due.length; what++) {
            Checks.same("transmitter(" + transmitter + ", " + what + ")", x.transmitter(transmitter, what), due[what]);
        }
    }

    static void promise14FaultyFromTheRawValueOn() {
        FlowComputer x = new FlowComputer();
        for (int t = 0; t < 4; t++) {
            x.setRaw(t, 11999);
            Checks.same("11999", x.transmitter(t, 2), 1);
            x.setRaw(t, 12000);
            Checks.same("12000", x.transmitter(t, 2), 0);
        }
    }

    static void promise14NoSuchTransmitter() {
        for (int t : new int[] {-1, 4, Integer.MIN_VALUE, Integer.MAX_VALUE}) {
            Refusals.everywhere("transmitter(" + t + ", 0)", Refusals.INDEX, x -> x.transmitter(t, 0));
        }
    }

    static void promise14WhatTooSmall() {
        transmitterRefused(0, -1);
        transmitterRefused(3, -1);
        transmitterRefused(0, Integer.MIN_VALUE);
    }

    static void promise14WhatTooLarge() {
        transmitterRefused(0, 4);
        transmitterRefused(3, 4);
        transmitterRefused(0, Integer.MAX_VALUE);
    }

    private static void transmitterRefused(int t, int what) {
        Refusals.everywhere("transmitter(" + t + ", " + what + ")", Refusals.ARGUMENT, x -> x.transmitter(t, what));
    }

    static void promise14NoSuchTransmitterAndWrongWhat() {
        for (int wrong : new int[] {-1, 4}) {
            Refusals.everywhere("transmitter(" + wrong + ", " + wrong + ")", Refusals.INDEX,
                    x -> x.transmitter(wrong, wrong));
        }
    }

    // ---- range, differential, density

    static void promise15LowBeforeTheFirstSecond() {
        FlowComputer x = new FlowComputer();
        x.setRaw(0, 11999);
        Checks.same("range", x.range(), 0);
        x.run(1);
        Checks.same("range in the first second", x.range(), 1);
    }

    static void promise16ZeroBeforeTheFirstSecond() {
        FlowComputer x = Meters.flowing();
        Checks.same("differential", x.differential(), 0);
        x.run(1);
        Checks.same("differential of the first second", x.differential(), 1250);
    }

    static void promise16TheLastSecondOnly() {
        FlowComputer x = Meters.flowing();
        x.run(1);
        Meters.show(x, 0, 7);
        x.setSpan(0, 30000);
        Checks.same("differential", x.differential(), 1250);
    }

    static void promise16TheGreatest() {
        FlowComputer x = new FlowComputer();
        x.setSpan(1, 30000);
        x.setRaw(0, 0);
        x.setRaw(1, 65535);
        x.run(1);
        Checks.same("differential", x.differential(), 30000);
    }

    static void promise17BeforeTheFirstSecond() {
        FlowComputer x = new FlowComputer();
        x.setDensity(0, 1);
        x.setRaw(3, 65535);
        Checks.same("density of -500", x.density(), 1);
        x.setMode(FlowComputer.GAS);
        Checks.same("density of the pressure 0", x.density(), 0);
    }

    static void promise17LiquidAtTheFirstTemperature() {
        density(-200, 10000);
        density(-199, 9995);
    }

    static void promise17LiquidBelowTheFirstTemperature() {
        density(-201, 10000);
        density(-500, 10000);
    }

    static void promise17LiquidAtTheLastTemperature() {
        density(799, 7965);
        density(800, 8000);
    }

    static void promise17LiquidAboveTheLastTemperature() {
        density(801, 8000);
        density(1500, 8000);
    }

    static void promise17LiquidAtTheTemperaturesBetween() {
        density(-1, 9005);
        density(0, 9000);
        density(1, 9005);
        density(199, 9995);
        density(200, 10000);
        density(201, 9999);
        density(399, 9999);
        density(400, 9999);
        density(401, 9954);
        density(599, 1044);
        density(600, 1000);
        density(601, 1035);
    }

    /** Rounded towards minus infinity: a fall by one is there at once, a rise by one at the end only. */
    static void promise17LiquidSlopesOfOne() {
        density(201, 9999);
        FlowComputer x = new FlowComputer();
        x.setDensity(3, 10001);
        for (int temperature : new int[] {200, 201, 399, 400}) {
            Meters.show(x, 3, temperature);
            x.run(1);
            Checks.same("density at " + temperature, x.density(), temperature < 400 ? 10000 : 10001);
        }
    }

    static void promise17LiquidOfLeastAndGreatestValues() {
        FlowComputer x = new FlowComputer();
        x.setDensity(1, 1);
        x.setDensity(2, 20000);
        int[][] due = {{0, 1}, {1, 100}, {199, 19900}, {200, 20000}};
        for (int[] pair : due) {
            Meters.show(x, 3, pair[0]);
            x.run(1);
            Checks.same("density at " + pair[0], x.density(), pair[1]);
        }
    }

    private static void density(int temperature, int due) {
        FlowComputer x = new FlowComputer();
        int[] values = {10000, 9000, 10000, 9999, 1000, 8000};
        for (int i = 0; i < values.length; i++) {
            x.setDensity(i, values[i]);
        }
        Meters.show(x, 3, temperature);
        x.run(1);
        Checks.same("density at " + temperature, x.density(), due);
    }

    static void promise17GasWithoutPressure() {
        gasDensity(20000, 0, 0);
        gasDensity(20000, -1, 0);
        gasDensity(20000, -211, 0);
    }

    static void promise17GasOfTheLeastPressure() {
        gasDensity(20000, 1, 198);
        gasDensity(1, 1, 0);
    }

    static void promise17GasDensityBeginsAtOne() {
        gasDensity(1, 100, 0);
        gasDensity(1, 101, 1);
        gasDensity(1, 102, 1);
    }

    private static void gasDensity(int value, int pressure, int due) {
        FlowComputer x = new FlowComputer();
        x.setMode(FlowComputer.GAS);
        x.setDensity(0, value);
        Meters.show(x, 2, pressure);
        Meters.show(x, 3, 200);
        x.run(1);
        Checks.same("density of " + value + " at the pressure " + pressure, x.density(), due);
    }

    static void promise17GasAtTheLeastTemperature() {
        FlowComputer x = greatestGas();
        x.setRaw(3, 12000);
        x.run(1);
        Checks.same("temperature", x.transmitter(3, 1), -1134);
        Checks.same("density", x.density(), 10902868);
    }

    static void promise17GasAtTheGreatestTemperature() {
        FlowComputer x = greatestGas();
        x.setRaw(3, 65535);
        x.run(1);
        Checks.same("temperature", x.transmitter(3, 1), 29500);
        Checks.same("density", x.density(), 540221);
        x.setDensity(0, 1);
        Checks.same("density of the least value", x.density(), 27);
    }

    private static FlowComputer greatestGas() {
        FlowComputer x = new FlowComputer();
        x.setMode(FlowComputer.GAS);
        x.setDensity(0, 20000);
        x.setSpan(2, 30000);
        x.setSpan(3, 30000);
        x.setRaw(2, 65535);
        return x;
    }

    // ---- flow, isFlowing, total, valve

    static void promise18ZeroBeforeTheFirstSecond() {
        FlowComputer x = Meters.flowing();
        Checks.same("flow", x.flow(), 0);
        x.run(1);
        Checks.same("flow of the first second", x.flow(), 3535);
    }

    static void promise18TheLastSecondOnly() {
        FlowComputer x = Meters.flowing();
        x.run(1);
        Meters.show(x, 0, 0);
        x.setMeter(1);
        x.setCutoff(100000, 100000);
        Checks.same("flow", x.flow(), 3535);
        x.run(1);
        Checks.same("flow of the next second", x.flow(), 0);
    }

    static void promise19FlowingBeforeTheFirstSecond() {
        FlowComputer x = new FlowComputer();
        x.setCutoff(100000, 100000);
        Checks.yes("flowing", x.isFlowing());
        x.run(1);
        Checks.yes("not flowing in the first second", !x.isFlowing());
    }

    static void promise20LeastAndGreatestWhat() {
        FlowComputer x = Meters.flowing();
        x.run(2);
        Checks.same("total(0)", x.total(0), 7070);
        Checks.same("total(3)", x.total(3), 7070);
    }

    static void promise20WhatTooSmall() {
        for (int what : new int[] {-1, Integer.MIN_VALUE}) {
            Refusals.everywhere("total(" + what + ")", Refusals.ARGUMENT, x -> x.total(what));
        }
    }

    static void promise20WhatTooLarge() {
        for (int what : new int[] {4, Integer.MAX_VALUE}) {
            Refusals.everywhere("total(" + what + ")", Refusals.ARGUMENT, x -> x.total(what));
        }
    }

    static void promise20NoBatchYet() {
        FlowComputer x = Meters.flowing();
        x.run(100);
        Checks.same("total(2)", x.total(2), 0);
    }

    static void promise20TheLatestBatch() {
        FlowComputer x = Meters.flowing();
        x.openBatch(1, 0);
        x.run(3);
        Checks.same("of a done batch", x.total(2), 3535);
        x.openBatch(MOST, 0);
        Checks.same("of a new batch", x.total(2), 0);
        x.run(2);
        x.closeBatch();
        x.run(1);
        Checks.same("of a closed batch", x.total(2), 7070);
    }

    static void promise20ThePresentHour() {
        FlowComputer x = Meters.flowing();
        Checks.same("before the first second", x.total(3), 0);
        x.run(3599);
        Checks.same("a second before the end", x.total(3), 3599 * 3535);
        x.run(1);
        Checks.same("at the end", x.total(3), 0);
        x.run(1);
        Checks.same("a second after the end", x.total(3), 3535);
    }

    static void promise21ClosedWithoutABatch() {
        FlowComputer x = Meters.flowing();
        Checks.same("valve", x.valve(), 0);
        x.run(100);
        Checks.same("valve after seconds", x.valve(), 0);
    }

    static void promise21ClosedAfterTheLastSecondOfABatch() {
        FlowComputer x = Meters.flowing();
        x.openBatch(2 * 3535 + 1, 1);
        int[] due = {2, 1, 0, 0};
        for (int valve : due) {
            x.run(1);
            Checks.same("valve", x.valve(), valve);
        }
    }

    // ---- flowFor

    static void promise22LeastArguments() {
        flowFor(new FlowComputer(), 0, 0, -500, 0);
    }

    static void promise22GreatestArguments() {
        flowFor(new FlowComputer(), 30000, 30000, 3000, 17320);
        FlowComputer x = new FlowComputer();
        x.setDensity(5, 20000);
        x.setFactor(4, 11000);
        x.setMeter(100000);
        flowFor(x, 30000, 30000, 3000, 2694428);
        x.setMode(FlowComputer.GAS);
        x.setDensity(0, 20000);
        flowFor(x, 30000, 30000, -500, 53066625);
    }

    static void promise22DifferentialTooSmall() {
        flowForRefused(-1, 0, 0);
        flowForRefused(Integer.MIN_VALUE, 0, 0);
    }

    static void promise22DifferentialTooLarge() {
        flowForRefused(30001, 0, 0);
        flowForRefused(Integer.MAX_VALUE, 0, 0);
    }

    static void promise22PressureTooSmall() {
        flowForRefused(0, -1, 0);
        flowForRefused(0, Integer.MIN_VALUE, 0);
    }

    static void promise22PressureTooLarge() {
        flowForRefused(0, 30001, 0);
        flowForRefused(0, Integer.MAX_VALUE, 0);
    }

    static void promise22TemperatureTooSmall() {
        flowForRefused(0, 0, -501);
        flowForRefused(0, 0, Integer.MIN_VALUE);
    }

    static void promise22TemperatureTooLarge() {
        flowForRefused(0, 0, 3001);
        flowForRefused(0, 0, Integer.MAX_VALUE);
    }

    private static void flowForRefused(int differential, int pressure, int temperature) {
        Refusals.everywhere("flowFor(" + differential + ", " + pressure + ", " + temperature + ")", Refusals.ARGUMENT,
                x -> x.flowFor(differential, pressure, temperature));
    }

    private static void flowFor(FlowComputer x, int differential, int pressure, int temperature, long due) {
        Checks.same("flowFor(" + differential + ", " + pressure + ", " + temperature + ")",
                x.flowFor(differential, pressure, temperature), due);
    }

    /** With this density and constant the flow is ten times the root of 100 times the differential pressure. */
    static void promise22TheRootOfASquare() {
        FlowComputer x = ofRoots();
        flowFor(x, 1, 0, 0, 100);
        flowFor(x, 25, 0, 0, 500);
        flowFor(x, 100, 0, 0, 1000);
        flowFor(x, 10000, 0, 0, 10000);
    }

    static void promise22TheRootOfOneBelowASquare() {
        FlowComputer x = ofRoots();
        flowFor(x, 24, 0, 0, 480);
        flowFor(x, 98, 0, 0, 980);
        flowFor(x, 9999, 0, 0, 9990);
    }

    static void promise22TheRootOfAboveASquare() {
        FlowComputer x = ofRoots();
        flowFor(x, 26, 0, 0, 500);
        flowFor(x, 101, 0, 0, 1000);
        flowFor(x, 10001, 0, 0, 10000);
    }

    static void promise22TheRootOfZero() {
        flowFor(ofRoots(), 0, 0, 0, 0);
    }

    private static FlowComputer ofRoots() {
        FlowComputer x = new FlowComputer();
        for (int i = 0; i < 6; i++) {
            x.setDensity(i, 1);
        }
        x.setMeter(100000);
        return x;
    }

    /** The expansion is 700 from 100 times the pressure on, and not less above. */
    static void promise22TheLeastExpansion() {
        FlowComputer x = gasOfRoots();
        flowFor(x, 100, 1, 200, 9849);
        flowFor(x, 101, 1, 200, 9898);
        flowFor(x, 300, 3, 200, 29547);
        flowFor(x, 301, 3, 200, 29596);
        flowFor(x, 30000, 300, 200, 2955085);
        flowFor(x, 30000, 299, 200, 2950157);
    }

    static void promise22TheExpansionJustAboveTheLeast() {
        FlowComputer x = gasOfRoots();
        flowFor(x, 99, 1, 200, 9842);
        flowFor(x, 299, 3, 200, 29540);
        flowFor(x, 29999, 300, 200, 2959257);
        flowFor(x, 30000, 301, 200, 2964234);
    }

    static void promise22TheExpansionJustBelow1000() {
        FlowComputer x = gasOfRoots();
        flowFor(x, 2, 9, 200, 5960);
        flowFor(x, 3, 9, 200, 7302);
        flowFor(x, 4, 9, 200, 8431);
    }

    static void promise22GasWithoutPressure() {
        FlowComputer x = gasOfRoots();
        flowFor(x, 30000, 0, 200, 0);
        flowFor(x, 0, 0, 200, 0);
        flowFor(x, 0, 30000, 200, 0);
    }

    static void promise22NoExpansionOfALiquid() {
        FlowComputer x = new FlowComputer();
        flowFor(x, 30000, 1, 0, 17320);
        flowFor(x, 30000, 0, 0, 17320);
    }

    private static FlowComputer gasOfRoots() {
        FlowComputer x = new FlowComputer();
        x.setMode(FlowComputer.GAS);
        x.setDensity(0, 20000);
        x.setMeter(100000);
        return x;
    }

    static void promise22FactorsAtTheFirstFlow() {
        factored(1000, 0, 0);
        factored(10, 1, 1);
        factored(100, 1, 10);
        factored(1000, 1, 108);
        factored(1380, 1, 147);
    }

    static void promise22FactorsAtTheSecondFlow() {
        factored(9990, 1, 899);
        factored(10000, 1, 900);
        factored(10010, 1, 900);
    }

    static void promise22FactorsAtTheThirdFlow() {
        factored(29990, 1, 2998);
        factored(30000, 1, 3000);
        factored(30010, 1, 3000);
    }

    static void promise22FactorsAtTheFourthFlow() {
        factored(99990, 1, 9499);
        factored(100000, 1, 9500);
        factored(33337, 9, 9500);
    }

    static void promise22FactorsAtTheLastFlow() {
        factored(99997, 9, 31495);
        factored(100000, 9, 31500);
        factored(75003, 16, 31501);
        factored(100000, 30000, 1818652);
    }

    /** The flow before the factor is a tenth of the constant times the root of the differential pressure. */
    private static void factored(int constant, int differential, int due) {
        FlowComputer x = new FlowComputer();
        int[] factors = {11000, 9000, 10000, 9500, 10500};
        for (int i = 0; i < factors.length; i++) {
            x.setFactor(i, factors[i]);
        }
        x.setMeter(constant);
        flowFor(x, differential, 0, 0, due);
    }

    static void promise22LeastAndGreatestFactors() {
        FlowComputer x = new FlowComputer();
        for (int i = 0; i < 5; i++) {
            x.setFactor(i, i % 2 == 0 ? 9000 : 11000);
        }
        x.setMeter(10000);
        flowFor(x, 1, 0, 0, 1100);
        flowFor(x, 9, 0, 0, 2700);
        flowFor(x, 100, 0, 0, 11000);
        flowFor(x, 900, 0, 0, 27000);
        flowFor(x, 30000, 0, 0, 155884);
    }

    // ---- differentialFor

    static void promise23LeastFlow() {
        differentialFor(new FlowComputer(), 0, 0);
        FlowComputer x = new FlowComputer();
        x.setMode(FlowComputer.GAS);
        differentialFor(x, 0, 0);
        differentialFor(x, 1, FlowComputer.NONE);
    }

    static void promise23GreatestFlow() {
        differentialFor(new FlowComputer(), MOST, FlowComputer.NONE);
        FlowComputer x = gasOfRoots();
        x.setSpan(2, 30000);
        x.setRaw(2, 65535);
        x.run(1);
        differentialFor(x, MOST, FlowComputer.NONE);
    }

    static void promise23FlowTooSmall() {
        for (long flow : new long[] {-1, Long.MIN_VALUE, -(1L << 32)}) {
            Refusals.everywhere("differentialFor(" + flow + ")", Refusals.ARGUMENT, x -> x.differentialFor(flow));
        }
    }

    /** There is none at which the flow is so great, but the exception comes before NONE. */
    static void promise23FlowTooLarge() {
        for (long flow : new long[] {MOST + 1L, Long.MAX_VALUE, 1L << 32}) {
            Refusals.everywhere("differentialFor(" + flow + ")", Refusals.ARGUMENT, x -> x.differentialFor(flow));
        }
    }

    static void promise23FlowJustReached() {
        FlowComputer x = new FlowComputer();
        differentialFor(x, 100, 1);
        differentialFor(x, 101, 2);
        differentialFor(x, 1000, 100);
        differentialFor(x, 1001, 101);
        differentialFor(x, 999, 100);
    }

    static void promise23FlowReachedAtTheGreatestDifferential() {
        FlowComputer x = new FlowComputer();
        x.setMeter(10000);
        differentialFor(x, 173202, 29999);
        differentialFor(x, 173203, 30000);
        differentialFor(x, 173205, 30000);
    }

    static void promise23FlowJustNotReached() {
        FlowComputer x = new FlowComputer();
        x.setMeter(10000);
        differentialFor(x, 173206, FlowComputer.NONE);
    }

    /** The flow falls by a step where the expansion does: the first place counts, not the last one. */
    static void promise23TheLeastOfSeveral() {
        FlowComputer x = gasOfRoots();
        x.setDensity(0, 12);
        Meters.show(x, 2, 5000);
        Meters.show(x, 3, 200);
        x.run(1);
        Checks.same("flow at 1666", x.flowFor(1666, 5000, 200), 99470);
        Checks.same("flow at 1667", x.flowFor(1667, 5000, 200), 99400);
        differentialFor(x, 99470, 1666);
        differentialFor(x, 99471, 1670);
    }

    private static void differentialFor(FlowComputer x, long flow, int due) {
        Checks.same("differentialFor(" + flow + ")", x.differentialFor(flow), due);
    }
}
