import java.util.function.ToLongFunction;

/** Promises 2 to 10. */
final class SettingsTest {
    private static final Class<?> INDEX = IndexOutOfBoundsException.class;
    private static final Class<?> ARGUMENT = IllegalArgumentException.class;

    private SettingsTest() {
    }

    private interface Indexed {
        int set(FlowComputer x, int index, int value);
    }

    public static void main(String[] args) {
        indexed("setSpan", FlowComputer::setSpan, 0, 4, 100, 30000, new int[] {2500, 25000, 10000, 2000});
        indexed("setDamping", FlowComputer::setDamping, 1, 4, 0, 8, new int[4]);
        indexed("setDensity", FlowComputer::setDensity, 3, 6, 1, 20000,
                new int[] {10000, 10000, 10000, 10000, 10000, 10000});
        indexed("setFactor", FlowComputer::setFactor, 4, 5, 9000, 11000,
                new int[] {10000, 10000, 10000, 10000, 10000});
        indexed("setRaw", FlowComputer::setRaw, -1, 4, 0, 65535, null);
        plain("setMode", (x, i, v) -> x.setMode(v), 2, 0, 1, 0);
        plain("setMeter", (x, i, v) -> x.setMeter(v), 5, 1, 100000, 1000);
        plain("setContractHour", (x, i, v) -> x.setContractHour(v), 7, 0, 23, 0);
        cutoff();
        spanChangesTheReading();
        rawGivesTheReading();
        Checks.end();
    }

    /** A setting, or with number -1 no setting, of one of several values; before holds the first ones. */
    private static void indexed(String name, Indexed call, int number, int size, int least, int greatest,
            int[] before) {
        for (int i = 0; i < size; i++) {
            int index = i;
            if (before != null) {
                previous(name + "(" + i + ")", (x, n, v) -> call.set(x, index, v), least, greatest, before[i]);
            }
            changes(name + "(" + i + ", least)", x -> call.set(x, index, least), number);
            changes(name + "(" + i + ", greatest)", x -> call.set(x, index, greatest), number);
        }
        FlowComputer x = new FlowComputer();
        for (int wrong : Meters.WRONG_INDEXES) {
            Checks.refuses(name + "(" + wrong + ")", x, INDEX, () -> call.set(x, wrong, least));
            Checks.refuses(name + ", both wrong", x, INDEX, () -> call.set(x, wrong, least - 1));
            Checks.refuses(name + ", value " + wrong, x, ARGUMENT, () -> call.set(x, 0, wrong));
        }
        Checks.refuses(name + ", index beyond", x, INDEX, () -> call.set(x, size, least));
        Checks.refuses(name + ", too little", x, ARGUMENT, () -> call.set(x, size - 1, least - 1));
        Checks.refuses(name + ", too much", x, ARGUMENT, () -> call.set(x, size - 1, greatest + 1));
        Checks.same(name + ": events after refusals", x.events(), 0);
    }

    private static void plain(String name, Indexed call, int number, int least, int greatest, int before) {
        previous(name, call, least, greatest, before);
        changes(name + "(least)", x -> call.set(x, 0, least), number);
        changes(name + "(greatest)", x -> call.set(x, 0, greatest), number);
        FlowComputer x = new FlowComputer();
        for (int wrong : new int[] {least - 1, greatest + 1, Integer.MIN_VALUE, Integer.MAX_VALUE}) {
            Checks.refuses(name + "(" + wrong + ")", x, ARGUMENT, () -> call.set(x, 0, wrong));
        }
        Checks.same(name + ": events after refusals", x.events(), 0);
    }

    private static void previous(String name, Indexed call, int least, int greatest, int before) {
        FlowComputer x = new FlowComputer();
        Checks.same(name + " first", call.set(x, 0, least), before);
        Checks.same(name + " second", call.set(x, 0, greatest), least);
        Checks.same(name + " third", call.set(x, 0, greatest), greatest);
    }

    /** The call logs its event, if it is a setting, at the present time, and is undoable also if it changes nothing. */
    private static void changes(String name, ToLongFunction<FlowComputer> call, int number) {
        FlowComputer x = new FlowComputer();
        x.run(7);
        long before = x.digest();
        call.applyAsLong(x);
        int logged = number < 0 ? 0 : 1;
        Checks.same(name + ": events", x.events(), logged);
        if (logged > 0) {
            Meters.event(name, x, 0, 7, FlowComputer.CONFIGURATION, number);
        }
        long once = x.digest();
        call.applyAsLong(x);
        Checks.same(name + ": events after the same again", x.events(), 2 * logged);
        Checks.same(name + ": undo of the same again", x.undo(), 2);
        Checks.same(name + ": digest after the first undo", x.digest(), once);
        Checks.same(name + ": undo", x.undo(), 1);
        Checks.same(name + ": digest after undo", x.digest(), before);
    }

    private static void cutoff() {
        FlowComputer x = new FlowComputer();
        Checks.same("setCutoff first", x.setCutoff(100000, 100000), 0);
        Checks.same("setCutoff second", x.setCutoff(7, 8), 100000);
        Checks.same("setCutoff third", x.setCutoff(0, 0), 7);
        changes("setCutoff(0, 0)", y -> y.setCutoff(0, 0), 6);
        changes("setCutoff(5, 5)", y -> y.setCutoff(5, 5), 6);
        changes("setCutoff(0, 100000)", y -> y.setCutoff(0, 100000), 6);
        int[][] wrong = {{-1, 0}, {-1, -1}, {1, 0}, {5, 4}, {0, 100001}, {100001, 100001}, {100001, 100000},
            {Integer.MIN_VALUE, 0}, {0, Integer.MAX_VALUE}, {Integer.MAX_VALUE, Integer.MAX_VALUE},
            {0, Integer.MIN_VALUE}, {Integer.MIN_VALUE, Integer.MIN_VALUE}};
        for (int[] pair : wrong) {
            Checks.refuses("setCutoff(" + pair[0] + ", " + pair[1] + ")", x, ARGUMENT,
                    () -> x.setCutoff(pair[0], pair[1]));
        }
        Checks.same("events after refusals", x.events(), 3);
    }

    private static void spanChangesTheReading() {
        FlowComputer x = new FlowComputer();
        Checks.same("reading before", x.setRaw(0, 65535), 2500);
        x.setSpan(0, 30000);
        Checks.same("reading with the new span", x.transmitter(0, 0), 30000);
        Checks.same("filtered value before the next second", x.transmitter(0, 1), 0);
        x.setSpan(3, 100);
        Checks.same("reading of the temperature", x.setRaw(3, 65535), -400);
    }

    private static void rawGivesTheReading() {
        FlowComputer x = new FlowComputer();
        Checks.same("setRaw(0, 65535)", x.setRaw(0, 65535), 2500);
        Checks.same("setRaw(1, 65535)", x.setRaw(1, 65535), 25000);
        Checks.same("setRaw(2, 65535)", x.setRaw(2, 65535), 10000);
        Checks.same("setRaw(3, 65535)", x.setRaw(3, 65535), 1500);
        Checks.same("setRaw(0, 13106)", x.setRaw(0, 13106), -1);
        Checks.same("setRaw(0, 13108)", x.setRaw(0, 13108), 0);
        Checks.same("setRaw(0, 65534)", x.setRaw(0, 65534), 2499);
        Checks.same("setRaw(0, 0)", x.setRaw(0, 0), -625);
        Checks.same("setRaw(3, 0)", x.setRaw(3, 0), -1000);
        Checks.same("setRaw(1, 12000)", x.setRaw(1, 12000), -528);
        Checks.same("events", x.events(), 0);
    }
}
