/** The four examples of the document. */
final class ExamplesTest {
    private ExamplesTest() {
    }

    public static void main(String[] args) {
        flowAndTotals();
        switchingAndFault();
        batch();
        hourRecordAndExceptions();
        Checks.end();
    }

    private static void flowAndTotals() {
        FlowComputer x = new FlowComputer();
        Checks.same("1 setRaw", x.setRaw(0, 39321), 1250);
        Checks.same("1 transmitter", x.transmitter(0, 0), 1250);
        Checks.same("1 run", x.run(1), 3535);
        Checks.same("1 differential", x.differential(), 1250);
        Checks.same("1 density", x.density(), 10000);
        Checks.same("1 flow", x.flow(), 3535);
        Checks.same("1 total(0)", x.total(0), 3535);
        Checks.same("1 total(1)", x.total(1), 3535);
        Checks.same("1 flowFor", x.flowFor(1250, 0, 0), 3535);
        Checks.same("1 differentialFor", x.differentialFor(1000), 100);
    }

    private static void switchingAndFault() {
        FlowComputer x = new FlowComputer();
        Checks.same("2 setRaw(0, 63000)", x.setRaw(0, 63000), 2379);
        Checks.same("2 setRaw(1, 17800)", x.setRaw(1, 17800), 2237);
        Checks.same("2 first run", x.run(1), 4729);
        Checks.same("2 first range", x.range(), 1);
        Checks.same("2 second run", x.run(1), 4877);
        Checks.same("2 second range", x.range(), 0);
        Checks.same("2 event(0, 1)", x.event(0, 1), 2);
        Checks.same("2 event(0, 2)", x.event(0, 2), 1);
        Checks.same("2 setRaw(0, 0)", x.setRaw(0, 0), -625);
        Checks.same("2 third run", x.run(1), 4729);
        Checks.same("2 third range", x.range(), 1);
        Checks.same("2 event(3, 1)", x.event(3, 1), 2);
    }

    private static void batch() {
        FlowComputer x = new FlowComputer();
        Checks.same("3 setRaw", x.setRaw(0, 39321), 1250);
        Checks.same("3 openBatch", x.openBatch(3000, 1500), 1);
        for (int i = 0; i < 3; i++) {
            Checks.same("3 run", x.run(1), 3535);
            Checks.same("3 valve", x.valve(), 0);
        }
        Checks.same("3 total(2)", x.total(2), 3535);
        Checks.same("3 event(0, 1)", x.event(0, 1), 4);
        Checks.same("3 event(0, 2)", x.event(0, 2), 535);
        Checks.refuses("3 closeBatch", x, IllegalStateException.class, x::closeBatch);
    }

    private static void hourRecordAndExceptions() {
        FlowComputer x = new FlowComputer();
        Checks.same("4 setRaw", x.setRaw(0, 39321), 1250);
        Checks.same("4 run", x.run(3600), 12726000);
        Checks.same("4 hours", x.hours(), 1);
        Checks.same("4 hour(0, 0)", x.hour(0, 0), 12726000);
        Checks.same("4 hour(0, 1)", x.hour(0, 1), 3600);
        Checks.same("4 hour(0, 2)", x.hour(0, 2), 1250);
        Checks.refuses("4 setSpan", x, IndexOutOfBoundsException.class, () -> x.setSpan(4, 100));
        Checks.refuses("4 setCutoff", x, IllegalArgumentException.class, () -> x.setCutoff(5, 4));
    }
}
