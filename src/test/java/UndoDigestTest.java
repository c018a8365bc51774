/** Promises 30 and 31: undo and digest. */
final class UndoDigestTest {
    private UndoDigestTest() {
    }

    public static void main(String[] args) {
        depth();
        refusedCallsSaveNothing();
        undoOfEachCall();
        undoThenGoOn();
        undoOfHiddenState();
        digestOfNewObject();
        digestOfRichState();
        Checks.end();
    }

    private static void depth() {
        FlowComputer x = new FlowComputer();
        Checks.refuses("nothing saved", x, IllegalStateException.class, x::undo);
        long[] digests = new long[6];
        for (int i = 0; i < 6; i++) {
            digests[i] = x.digest();
            x.setMeter(i + 1);
        }
        Checks.same("first undo", x.undo(), 2);
        Checks.same("second undo", x.undo(), 1);
        Checks.same("third undo", x.undo(), 0);
        Checks.refuses("older ones are dropped", x, IllegalStateException.class, x::undo);
        Checks.same("the constant", x.setMeter(9), 3);
        x.undo();
        Checks.yes("the stack counts in the digest", x.digest() != digests[3]);
        Checks.same("events", x.events(), 3);
    }

    private static void refusedCallsSaveNothing() {
        FlowComputer x = new FlowComputer();
        x.setMeter(7);
        Checks.thrownBy(() -> x.setMeter(0));
        Checks.thrownBy(() -> x.run(0));
        Checks.thrownBy(x::closeBatch);
        Checks.thrownBy(() -> x.openBatch(0, 0));
        Checks.thrownBy(() -> x.setRaw(4, 0));
        Checks.same("only one is saved", x.undo(), 0);
        Checks.same("digest", x.digest(), new FlowComputer().digest());
    }

    private static FlowComputer prepared() {
        FlowComputer x = Meters.flowing();
        x.openBatch(1000000, 1000);
        x.run(3599);
        return x;
    }

    private static void undone(String name, Checks.Call call, FlowComputer x) {
        x.undo();
        long before = x.digest();
        call.make();
        Checks.same(name + " is undoable", x.undo(), 2);
        Checks.same(name + ": digest after undo", x.digest(), before);
    }

    private static void undoOfEachCall() {
        FlowComputer x = prepared();
        x.run(1);
        undone("setSpan", () -> x.setSpan(0, 100), x);
        FlowComputer y = prepared();
        undone("setRaw", () -> y.setRaw(0, 0), y);
        FlowComputer z = prepared();
        z.setRaw(0, 0);
        undone("run", () -> z.run(20000), z);
        FlowComputer u = prepared();
        u.setRaw(1, 0);
        undone("a done batch", () -> u.run(3600), u);
    }

    private static void undoThenGoOn() {
        FlowComputer x = prepared();
        FlowComputer y = prepared();
        x.setMode(1);
        x.setSpan(2, 123);
        x.run(5000);
        for (int i = 0; i < 3; i++) {
            x.undo();
        }
        for (int i = 0; i < 3; i++) {
            y.setMode(0);
            y.undo();
            y.setRaw(0, 50000);
            x.setRaw(0, 50000);
            Checks.same("what follows an undo", x.run(3000), y.run(3000));
        }
        Checks.same("total(0)", x.total(0), y.total(0));
        Checks.same("digest", x.digest(), y.digest());
    }

    private static void undoOfHiddenState() {
        FlowComputer x = Meters.flowing();
        x.run(1);
        Meters.fail(x, 0);
        Meters.fail(x, 1);
        x.run(10);
        x.run(5);
        Checks.same("held", x.differential(), 0);
        x.undo();
        Checks.same("not yet held", x.differential(), 1250);
        x.run(1);
        Checks.same("held again", x.differential(), 0);
        Meters.event("hidden state", x, 2, 12, FlowComputer.HELD, 0);
        x.undo();
        x.undo();
        x.run(1);
        Meters.event("the faults are new again", x, 0, 2, FlowComputer.FAULT, 0);
        Meters.event("the faults are new again", x, 1, 2, FlowComputer.FAULT, 1);
        Checks.same("events", x.events(), 2);
    }

    private static long hash(long start, long... values) {
        long h = start;
        for (long v : values) {
            h = 31 * h + v;
        }
        return h;
    }

    private static void digestOfNewObject() {
        long h = hash(19735, 0, 0, 0, 1000, 0, 0, 0);
        h = hash(h, 2500, 0, 13107, 0, 25000, 0, 13107, 0, 10000, 0, 13107, 0, 2000, 0, 13107, -500);
        h = hash(h, 10000, 10000, 10000, 10000, 10000, 10000, 10000, 10000, 10000, 10000, 10000);
        h = hash(h, 0, 0, 0, 10000, 0, 1, 0, 0, 0, 0, 0, 0, 0, 0);
        Checks.same("digest of a new object", new FlowComputer().digest(), h);
    }

    private static void digestOfRichState() {
        FlowComputer x = new FlowComputer();
        for (int t = 0; t < 4; t++) {
            x.setSpan(t, 20000 + t);
            x.setDamping(t, t + 1);
            x.setRaw(t, 30000 + t);
        }
        for (int i = 0; i < 6; i++) {
            x.setDensity(i, 8000 + i);
        }
        for (int i = 0; i < 5; i++) {
            x.setFactor(i, 9900 + i);
        }
        x.setMeter(500);
        x.setCutoff(11, 12);
        x.setContractHour(5);
        x.openBatch(1000000000, 999999999);
        for (int i = 0; i < 30; i++) {
            x.run(3600);
        }
        Meters.fail(x, 0);
        Meters.fail(x, 1);
        x.run(7);
        long h = hash(19735, 3, 30 * 3600 + 7, 0, 500, 11, 12, 5);
        for (int t = 0; t < 4; t++) {
            h = hash(h, 20000 + t, t + 1, t < 2 ? 0 : 30000 + t, x.transmitter(t, 1));
        }
        h = hash(h, 8000, 8001, 8002, 8003, 8004, 8005, 9900, 9901, 9902, 9903, 9904);
        h = hash(h, x.range(), 7, x.differential(), x.density(), x.flow(), 1);
        h = hash(h, x.total(0), x.total(1), x.total(2), x.total(3), 1);
        h = hash(h, 24);
        for (int i = 0; i < 24; i++) {
            for (int what = 0; what < 7; what++) {
                h = hash(h, x.hour(i, what));
            }
        }
        h = hash(h, 2);
        for (int i = 0; i < 2; i++) {
            h = hash(h, x.day(i, 0), x.day(i, 1), x.day(i, 2), x.day(i, 3));
        }
        h = hash(h, x.events());
        for (int i = 0; i < x.events(); i++) {
            h = hash(h, x.event(i, 0), x.event(i, 1), x.event(i, 2));
        }
        Checks.same("flow", x.flow() > 0 ? 1 : 0, 1);
        Checks.same("digest of a rich state", x.digest(), h);
        Checks.same("digest once more", x.digest(), h);
    }
}
