import java.util.Random;
import java.util.function.LongSupplier;

/** Runs of random calls, each answered by the class and by the naive model; the digests are compared after each. */
final class RandomRunsTest {
    private static final int RUNS = 400;
    // With the digest behind each call and the calls of prepareGas an object gets at most the 512 that are promised.
    private static final int CALLS = 250;

    private final Random random;
    private final FlowComputer x = new FlowComputer();
    private final NaiveModel y = new NaiveModel();
    private final boolean gas;
    private final int faults;
    private final int longRuns;
    private String call;
    private LongSupplier ofClass;
    private LongSupplier ofModel;

    private RandomRunsTest(long seed) {
        random = new Random(seed);
        gas = random.nextInt(3) == 0;
        faults = random.nextInt(40);
        longRuns = random.nextInt(20) == 0 ? 30 : random.nextInt(4);
    }

    public static void main(String[] args) {
        for (int run = 0; run < RUNS; run++) {
            new RandomRunsTest(7700 + run).go(run);
        }
        Checks.end();
    }

    private void go(int run) {
        if (gas) {
            prepareGas();
        }
        for (int i = 0; i < CALLS; i++) {
            choose();
            String name = "run " + run + ", call " + i + ": " + call;
            String got = outcome(ofClass);
            String due = outcome(ofModel);
            Checks.yes(name + " answered " + got + ", due is " + due, got.equals(due));
            long digestDue = y.digest();
            long digest = x.digest();
            Checks.same(name + ", digest", digest, digestDue);
            if (!got.equals(due) || digest != digestDue) {
                return;
            }
        }
    }

    private void prepareGas() {
        x.setMode(1);
        y.setMode(1);
        int density = between(5, 30);
        x.setDensity(0, density);
        y.setDensity(0, density);
        int pressure = between(13107, 65535);
        x.setRaw(2, pressure);
        y.setRaw(2, pressure);
        int constant = between(1000, 100000);
        x.setMeter(constant);
        y.setMeter(constant);
    }

    private static String outcome(LongSupplier side) {
        try {
            return Long.toString(side.getAsLong());
        } catch (RuntimeException e) {
            return e.getClass().getName();
        }
    }

    private void calls(String name, LongSupplier classSide, LongSupplier modelSide) {
        call = name;
        ofClass = classSide;
        ofModel = modelSide;
    }

    private int between(int least, int greatest) {
        return least + random.nextInt(greatest - least + 1);
    }

    /** Mostly within the bounds, now and then on an edge, seldom beyond one. */
    private int about(int least, int greatest) {
        switch (random.nextInt(30)) {
            case 0:
                return least - 1;
            case 1:
                return greatest + 1;
            case 2:
                return random.nextInt();
            case 3:
            case 4:
                return least;
            case 5:
            case 6:
                return greatest;
            default:
                return between(least, greatest);
        }
    }

    private int rawValue() {
        if (random.nextInt(100) < faults) {
            return between(0, 12001);
        }
        return random.nextInt(4) == 0 ? about(0, 65535) : between(12000, 65535);
    }

    private int seconds() {
        if (random.nextInt(100) < longRuns) {
            return about(1, 20000);
        }
        return random.nextInt(3) == 0 ? about(1, 400) : between(1, 12);
    }

    private void choose() {
        int kind = random.nextInt(100);
        if (kind < 25) {
            int s = seconds();
            calls("run(" + s + ")", () -> x.run(s), () -> y.run(s));
        } else if (kind < 45) {
            int t = about(0, 3);
            int raw = rawValue();
            calls("setRaw(" + t + ", " + raw + ")", () -> x.setRaw(t, raw), () -> y.setRaw(t, raw));
        } else if (kind < 60) {
            chooseSetting();
        } else if (kind < 72) {
            chooseBatch();
        } else if (kind < 78) {
            calls("undo()", x::undo, y::undo);
        } else {
            chooseQuestion();
        }
    }

    private void chooseSetting() {
        int i = about(0, 3);
        switch (random.nextInt(8)) {
            case 0: {
                int v = about(100, 30000);
                calls("setSpan(" + i + ", " + v + ")", () -> x.setSpan(i, v), () -> y.setSpan(i, v));
                return;
            }
            case 1: {
                int v = about(0, 8);
                calls("setDamping(" + i + ", " + v + ")", () -> x.setDamping(i, v), () -> y.setDamping(i, v));
                return;
            }
            case 2: {
                int v = random.nextInt(3) > 0 ? about(0, 1) : gas ? 1 : 0;
                calls("setMode(" + v + ")", () -> x.setMode(v), () -> y.setMode(v));
                return;
            }
            case 3: {
                int j = about(0, 5);
                int v = gas ? about(1, 40) : about(1, 20000);
                calls("setDensity(" + j + ", " + v + ")", () -> x.setDensity(j, v), () -> y.setDensity(j, v));
                return;
            }
            case 4: {
                int j = about(0, 4);
                int v = about(9000, 11000);
                calls("setFactor(" + j + ", " + v + ")", () -> x.setFactor(j, v), () -> y.setFactor(j, v));
                return;
            }
            case 5: {
                int v = random.nextBoolean() ? about(1, 100000) : between(500, 20000);
                calls("setMeter(" + v + ")", () -> x.setMeter(v), () -> y.setMeter(v));
                return;
            }
            case 6: {
                int on = random.nextInt(3) == 0 ? about(0, 100000) : between(0, 9000);
                int off = random.nextInt(5) == 0 ? about(0, 100000) : between(0, Math.max(0, Math.min(on, 200000)));
                calls("setCutoff(" + off + ", " + on + ")", () -> x.setCutoff(off, on), () -> y.setCutoff(off, on));
                return;
            }
            default: {
                int v = about(0, 23);
                calls("setContractHour(" + v + ")", () -> x.setContractHour(v), () -> y.setContractHour(v));
                return;
            }
        }
    }

    private void chooseBatch() {
        if (random.nextInt(4) == 0) {
            calls("closeBatch()", x::closeBatch, y::closeBatch);
            return;
        }
        int preset = random.nextInt(3) == 0 ? about(1, 1000000000) : between(1, 400000);
        int slow = random.nextInt(3) == 0 ? about(0, 1000000000) : between(0, 200000);
        calls("openBatch(" + preset + ", " + slow + ")", () -> x.openBatch(preset, slow),
                () -> y.openBatch(preset, slow));
    }

    private void chooseQuestion() {
        int what = about(0, 3);
        switch (random.nextInt(16)) {
            case 0: {
                int t = about(0, 3);
                calls("transmitter(" + t + ", " + what + ")", () -> x.transmitter(t, what),
                        () -> y.transmitter(t, what));
                return;
            }
            case 1:
                calls("range()", x::range, y::range);
                return;
            case 2:
                calls("differential()", x::differential, y::differential);
                return;
            case 3:
                calls("density()", x::density, y::density);
                return;
            case 4:
                calls("flow()", x::flow, y::flow);
                return;
            case 5:
                calls("isFlowing()", () -> x.isFlowing() ? 1 : 0, () -> y.isFlowing() ? 1 : 0);
                return;
            case 6:
                calls("total(" + what + ")", () -> x.total(what), () -> y.total(what));
                return;
            case 7:
                calls("valve()", x::valve, y::valve);
                return;
            case 8: {
                int d = about(0, 30000);
                int p = about(0, 30000);
                int t = random.nextBoolean() ? about(-500, 3000) : between(-300, 900);
                calls("flowFor(" + d + ", " + p + ", " + t + ")", () -> x.flowFor(d, p, t),
                        () -> y.flowFor(d, p, t));
                return;
            }
            case 9:
                chooseDifferentialFor();
                return;
            case 10:
                calls("hours()", x::hours, y::hours);
                return;
            case 11:
                calls("days()", x::days, y::days);
                return;
            case 12:
                calls("events()", x::events, y::events);
                return;
            default:
                chooseRecord();
        }
    }

    private void chooseDifferentialFor() {
        int d = between(0, random.nextBoolean() ? 3000 : 32000);
        long reached = y.computed(Math.min(d, 30000), y.m.filtered[2], y.m.filtered[3]);
        long flow = d > 30000 ? about(0, 1000000000) : reached + random.nextInt(3) - 1;
        calls("differentialFor(" + flow + ")", () -> x.differentialFor(flow), () -> y.differentialFor(flow));
    }

    private void chooseRecord() {
        switch (random.nextInt(3)) {
            case 0: {
                int i = about(0, Math.max(0, y.hours() - 1));
                int what = about(0, 6);
                calls("hour(" + i + ", " + what + ")", () -> x.hour(i, what), () -> y.hour(i, what));
                return;
            }
            case 1: {
                int i = about(0, Math.max(0, y.days() - 1));
                int what = about(0, 3);
                calls("day(" + i + ", " + what + ")", () -> x.day(i, what), () -> y.day(i, what));
                return;
            }
            default: {
                int i = about(0, Math.max(0, y.events() - 1));
                int what = about(0, 2);
                calls("event(" + i + ", " + what + ")", () -> x.event(i, what), () -> y.event(i, what));
            }
        }
    }
}
