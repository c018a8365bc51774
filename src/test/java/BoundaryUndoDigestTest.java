import java.math.BigInteger;
import java.util.List;

/** The boundary cases of promises 30 and 31: undo and digest. */
final class BoundaryUndoDigestTest {
    private BoundaryUndoDigestTest() {
    }

    public static void main(String[] args) {
        Suite.run(BoundaryUndoDigestTest.class);
    }

    private interface Call {
        void make(FlowComputer x);
    }

    // ---- how many states are saved

    static void promise30NoneSaved() {
        Refusals.in(Prepared.NEW, "undo()", Refusals.STATE, FlowComputer::undo);
    }

    static void promise30OneSaved() {
        savedAndUndone(1);
    }

    static void promise30TwoSaved() {
        savedAndUndone(2);
    }

    static void promise30AsManySavedAsAreKept() {
        savedAndUndone(3);
    }

    static void promise30OneSavedMoreThanAreKept() {
        savedAndUndone(4);
    }

    static void promise30ManySaved() {
        savedAndUndone(100);
    }

    /** Undone until none is left, and once more. Each call makes the constant greater by one. */
    private static void savedAndUndone(int calls) {
        FlowComputer x = new FlowComputer();
        for (int i = 1; i <= calls; i++) {
            Checks.same("setMeter", x.setMeter(1000 + i), 999 + i);
        }
        int kept = Math.min(calls, 3);
        for (int i = 1; i <= kept; i++) {
            Checks.same("undo " + i + " of " + calls, x.undo(), kept - i);
            Checks.same("events", x.events(), Math.min(calls - i, 30));
        }
        Checks.refuses("undo of none", x, Refusals.STATE, x::undo);
        Checks.refuses("undo of none once more", x, Refusals.STATE, x::undo);
        Checks.same("the constant", x.setMeter(1), 1000 + calls - kept);
    }

    static void promise30TheStackWasFullAndEmptyBefore() {
        FlowComputer x = new FlowComputer();
        for (int round = 0; round < 4; round++) {
            for (int i = 0; i < 5; i++) {
                x.setMeter(1 + i);
            }
            for (int left = 2; left >= 0; left--) {
                Checks.same("undo", x.undo(), left);
            }
            Checks.refuses("undo of none", x, Refusals.STATE, x::undo);
        }
    }

    static void promise30SavedAfterAnUndo() {
        FlowComputer x = new FlowComputer();
        x.setMeter(1);
        x.setMeter(2);
        x.setMeter(3);
        Checks.same("undo", x.undo(), 2);
        x.setMeter(4);
        Checks.same("undo of the new one", x.undo(), 2);
        Checks.same("undo of the second", x.undo(), 1);
        Checks.same("undo of the first", x.undo(), 0);
        Checks.same("digest", x.digest(), new FlowComputer().digest());
    }

    static void promise30AnUndoIsNotUndone() {
        FlowComputer x = new FlowComputer();
        x.setMeter(1);
        x.undo();
        Checks.refuses("undo of an undo", x, Refusals.STATE, x::undo);
        Checks.same("the constant", x.setMeter(2), 1000);
    }

    static void promise30ARefusedCallSavesNothing() {
        List<Call> refused = List.of(x -> x.setSpan(4, 100), x -> x.setSpan(0, 99), x -> x.setDamping(0, 9),
                x -> x.setMode(2), x -> x.setDensity(0, 0), x -> x.setFactor(0, 8999), x -> x.setMeter(0),
                x -> x.setCutoff(1, 0), x -> x.setContractHour(24), x -> x.setRaw(0, 65536), x -> x.run(0),
                x -> x.openBatch(0, 0), FlowComputer::closeBatch, FlowComputer::undo);
        FlowComputer x = new FlowComputer();
        for (Call call : refused) {
            Checks.yes("refused", Checks.thrownBy(() -> call.make(x)) != null);
            Checks.refuses("undo", x, Refusals.STATE, x::undo);
        }
    }

    static void promise30AQuestionSavesNothing() {
        FlowComputer x = Prepared.FULL.make();
        Answers.of(x);
        Answers.same("saved states after questions", Prepared.earlierOf(x), Prepared.FULL.earlier());
    }

    // ---- what is restored

    static void promise30SetSpan() {
        undoable(x -> x.setSpan(1, 100));
    }

    static void promise30SetDamping() {
        undoable(x -> x.setDamping(3, 8));
    }

    static void promise30SetMode() {
        undoable(x -> x.setMode(FlowComputer.GAS));
        undoable(x -> x.setMode(FlowComputer.LIQUID));
    }

    static void promise30SetDensity() {
        undoable(x -> x.setDensity(0, 1));
        undoable(x -> x.setDensity(5, 1));
    }

    static void promise30SetFactor() {
        undoable(x -> x.setFactor(0, 9000));
        undoable(x -> x.setFactor(4, 9000));
    }

    static void promise30SetMeter() {
        undoable(x -> x.setMeter(1));
    }

    static void promise30SetCutoff() {
        undoable(x -> x.setCutoff(99999, 100000));
        undoable(x -> x.setCutoff(0, 0));
    }

    static void promise30SetContractHour() {
        undoable(x -> x.setContractHour(2));
    }

    static void promise30SetRaw() {
        undoable(x -> x.setRaw(0, 65535));
        undoable(x -> x.setRaw(2, 0));
    }

    static void promise30Run() {
        undoable(x -> x.run(1));
        undoable(x -> x.run(3600));
        undoable(x -> x.run(20000));
    }

    static void promise30OpenBatch() {
        undoableIn(Prepared.NEW, x -> x.openBatch(1, 1));
        undoableIn(Prepared.FULL, x -> x.openBatch(1, 1));
    }

    static void promise30CloseBatch() {
        undoableIn(Prepared.BUSY, FlowComputer::closeBatch);
    }

    private static void undoable(Call call) {
        for (Prepared state : Prepared.values()) {
            undoableIn(state, call);
        }
    }

    /** The digest counts the saved states, so it is left out here; what goes on later has the same number again. */
    private static void undoableIn(Prepared state, Call call) {
        FlowComputer x = state.make();
        call.make(x);
        Checks.same(state + ": undo", x.undo(), state == Prepared.NEW ? 0 : 2);
        Answers.same(state + ", restored", withoutDigest(Answers.of(x)), withoutDigest(state.answers()));
        FlowComputer y = state.make();
        call.make(y);
        y.undo();
        Answers.same(state + ", later", Prepared.laterOf(y), state.later());
    }

    private static List<String> withoutDigest(List<String> answers) {
        return answers.subList(0, answers.size() - 1);
    }

    static void promise30TheRangeIsBack() {
        FlowComputer x = Meters.flowing();
        x.run(1);
        Meters.fail(x, 0);
        x.run(1);
        Checks.same("range", x.range(), 1);
        x.undo();
        Checks.same("range after undo", x.range(), 0);
        x.run(1);
        x.setMeter(1);
        x.undo();
        Checks.same("range after another undo", x.range(), 1);
    }

    static void promise30TheHoursOfTheDayAreBack() {
        FlowComputer x = Meters.flowing();
        x.run(3600);
        x.setContractHour(2);
        x.run(3600);
        Meters.day("before", x, 0, 7200 * 3535, 7200, 2, 7200);
        x.undo();
        Checks.same("days after undo", x.days(), 0);
        x.run(3600);
        Meters.day("after undo", x, 0, 7200 * 3535, 7200, 2, 7200);
    }

    static void promise30TheSumsOfTheHourAreBack() {
        sumsAreBack(0, 3600);
        sumsAreBack(100000, 0);
    }

    /** With a great cutoff the means are those over all seconds. */
    private static void sumsAreBack(int cutoff, int flowTime) {
        FlowComputer x = Meters.flowing();
        x.setCutoff(cutoff, cutoff);
        x.run(1800);
        Meters.show(x, 0, 150);
        x.run(1800);
        x.undo();
        x.run(1800);
        Meters.hour("after undo", x, 0, x.total(0), flowTime, 700, 0, -500, 0, 3600);
    }

    static void promise30TheSlowQuantityIsBack() {
        FlowComputer x = Meters.flowing();
        x.openBatch(3 * 3535, 2 * 3535);
        x.run(1);
        Checks.same("valve", x.valve(), 1);
        x.undo();
        Checks.same("valve after undo", x.valve(), 2);
        x.run(1);
        Checks.same("valve after undo and a second", x.valve(), 1);
    }

    static void promise30TheDroppedHourIsBack() {
        FlowComputer x = new FlowComputer();
        for (int i = 0; i < 24; i++) {
            x.run(3600);
        }
        x.run(3600);
        Checks.same("the oldest hour is dropped", x.hour(0, 6), 7200);
        x.undo();
        Checks.same("hours", x.hours(), 24);
        Checks.same("the oldest hour", x.hour(0, 6), 3600);
        Checks.same("the latest hour", x.hour(23, 6), 86400);
        Checks.same("days", x.days(), 1);
        x.undo();
        Checks.same("hours of 23", x.hours(), 23);
        Checks.same("days of 23", x.days(), 0);
    }

    static void promise30TheDroppedDayIsBack() {
        FlowComputer x = new FlowComputer();
        for (int i = 1; i <= 6; i++) {
            x.setContractHour(i);
            x.run(3600);
        }
        Checks.same("the oldest day is dropped", x.day(0, 3), 7200);
        x.undo();
        Checks.same("days", x.days(), 5);
        Checks.same("the oldest day", x.day(0, 3), 3600);
        Checks.same("the latest day", x.day(4, 3), 18000);
    }

    static void promise30TheDroppedEventIsBack() {
        FlowComputer x = new FlowComputer();
        for (int i = 0; i < 31; i++) {
            x.run(1);
            x.setMeter(1);
        }
        Checks.same("the oldest event is dropped", x.event(0, 0), 2);
        x.undo();
        Checks.same("events", x.events(), 30);
        Checks.same("the oldest event", x.event(0, 0), 1);
        Checks.same("the latest event", x.event(29, 0), 30);
    }

    // ---- digest

    private static long hash(long start, long... values) {
        long h = start;
        for (long v : values) {
            h = 31 * h + v;
        }
        return h;
    }

    /** Of a new object with that many saved states, seconds, held seconds, and with the rows behind. */
    private static long digestOfNothing(int saved, int time, int raw, int held, long... rows) {
        long h = hash(19735, saved, time, 0, 1000, 0, 0, 0);
        h = hash(h, 2500, 0, raw, 0, 25000, 0, raw, 0, 10000, 0, 13107, 0, 2000, 0, 13107, -500);
        h = hash(h, 10000, 10000, 10000, 10000, 10000, 10000, 10000, 10000, 10000, 10000, 10000);
        h = hash(h, 0, held, 0, 10000, 0, 1, 0, 0, 0, 0, 0);
        return hash(h, rows);
    }

    static void promise31NoSavedStateNoRows() {
        Checks.same("digest", new FlowComputer().digest(), digestOfNothing(0, 0, 13107, 0, 0, 0, 0));
    }

    static void promise31EachNumberOfSavedStates() {
        FlowComputer x = new FlowComputer();
        for (int calls = 1; calls <= 5; calls++) {
            x.setRaw(2, 13107);
            Checks.same("digest after " + calls, x.digest(),
                    digestOfNothing(Math.min(calls, 3), 0, 13107, 0, 0, 0, 0));
        }
        for (int left = 2; left >= 0; left--) {
            x.undo();
            Checks.same("digest with " + left + " left", x.digest(), digestOfNothing(left, 0, 13107, 0, 0, 0, 0));
        }
    }

    static void promise31EachNumberOfHeldSeconds() {
        FlowComputer x = new FlowComputer();
        x.setRaw(0, 11999);
        x.setRaw(1, 11999);
        Checks.same("digest before", x.digest(), digestOfNothing(2, 0, 11999, 0, 0, 0, 0));
        for (int held = 1; held <= 13; held++) {
            x.run(1);
            long due = held < 11 ? digestOfNothing(3, held, 11999, held, 0, 0, 2, 1, 0, 0, 1, 0, 1)
                    : digestOfNothing(3, held, 11999, held, 0, 0, 3, 1, 0, 0, 1, 0, 1, 11, 3, 0);
            Checks.same("digest with " + held, x.digest(), due);
        }
    }

    static void promise31NotFlowing() {
        FlowComputer x = new FlowComputer();
        x.setCutoff(1, 2);
        x.run(1);
        long h = hash(19735, 2, 1, 0, 1000, 1, 2, 0);
        h = hash(h, 2500, 0, 13107, 0, 25000, 0, 13107, 0, 10000, 0, 13107, 0, 2000, 0, 13107, -500);
        h = hash(h, 10000, 10000, 10000, 10000, 10000, 10000, 10000, 10000, 10000, 10000, 10000);
        h = hash(h, 0, 0, 0, 10000, 0, 0, 0, 0, 0, 0, 0, 0, 0, 1, 0, 5, 6);
        Checks.same("digest", x.digest(), h);
    }

    static void promise31OneHourAndNoDay() {
        FlowComputer x = new FlowComputer();
        x.run(3600);
        Checks.same("digest", x.digest(),
                digestOfNothing(1, 3600, 13107, 0, 1, 0, 3600, 0, 0, -500, 0, 3600, 0, 0));
    }

    static void promise31AsManyRowsAsAreKept() {
        rows(5, 24);
    }

    static void promise31MoreRowsThanAreKept() {
        rows(6, 24);
        rows(8, 48);
    }

    private static void rows(int days, int hours) {
        FlowComputer x = new FlowComputer();
        long[] rows = new long[1 + 24 * 7 + 1 + 5 * 4 + 1 + 30 * 3];
        for (int hour = 1; hour <= hours; hour++) {
            x.setContractHour(hour <= days - 1 ? hour : 0);
            x.run(3600);
        }
        for (int i = 0; i < 30; i++) {
            x.setContractHour(0);
        }
        int end = hourRows(rows, hours);
        end = dayRows(x, rows, end);
        rows[end++] = 30;
        for (int i = 0; i < 30; i++) {
            rows[end++] = hours * 3600;
            rows[end++] = 5;
            rows[end++] = 7;
        }
        Checks.same("rows", end, rows.length);
        Checks.same("digest", x.digest(), digestOfNothing(3, hours * 3600, 13107, 0, rows));
    }

    private static int hourRows(long[] rows, int hours) {
        int end = 0;
        rows[end++] = 24;
        for (int hour = hours - 23; hour <= hours; hour++) {
            long[] row = {0, 3600, 0, 0, -500, 0, hour * 3600};
            System.arraycopy(row, 0, rows, end, row.length);
            end += row.length;
        }
        return end;
    }

    /** The days themselves are tested with promise 27: here it counts that all of them are in their place. */
    private static int dayRows(FlowComputer x, long[] rows, int start) {
        int end = start;
        rows[end++] = 5;
        for (int i = 0; i < 5; i++) {
            for (int what = 0; what < 4; what++) {
                rows[end++] = x.day(i, what);
            }
        }
        return end;
    }

    static void promise31TheHashWrapsAround() {
        BigInteger h = BigInteger.valueOf(19735);
        long[] values = {0, 0, 0, 1000, 0, 0, 0, 2500, 0, 13107, 0, 25000, 0, 13107, 0, 10000, 0, 13107, 0,
            2000, 0, 13107, -500, 10000, 10000, 10000, 10000, 10000, 10000, 10000, 10000, 10000, 10000, 10000,
            0, 0, 0, 10000, 0, 1, 0, 0, 0, 0, 0, 0, 0, 0};
        for (long v : values) {
            h = h.multiply(BigInteger.valueOf(31)).add(BigInteger.valueOf(v));
        }
        Checks.yes("it does not fit into a long", h.bitLength() > 64);
        Checks.same("digest", new FlowComputer().digest(), h.longValue());
    }
}
