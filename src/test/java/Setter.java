/** A method that sets one value, or one of several by an index, within bounds; and the tests of these bounds. */
final class Setter {
    interface Call {
        int set(FlowComputer x, int index, int value);
    }

    private final String name;
    private final Call call;
    private final int number;
    private final int least;
    private final int greatest;
    private final int[] first;

    /** The number of the setting, and the values that a new object holds: as many as there are indexes. */
    Setter(String name, Call call, int number, int least, int greatest, int... first) {
        this.name = name;
        this.call = call;
        this.number = number;
        this.least = least;
        this.greatest = greatest;
        this.first = first;
    }

    /** Taken by every index, so that the next call returns it, and by no other one. */
    void takes(int value) {
        for (int index = 0; index < first.length; index++) {
            FlowComputer x = new FlowComputer();
            String what = name + ", index " + index + ", value " + value;
            Checks.same(what, call.set(x, index, value), first[index]);
            Checks.same(what + ", the next call", call.set(x, index, least), value);
            for (int other = 0; other < first.length; other++) {
                if (other != index) {
                    Checks.same(what + ", index " + other, call.set(x, other, least), first[other]);
                }
            }
        }
    }

    void takesLeast() {
        takes(least);
    }

    void takesGreatest() {
        takes(greatest);
    }

    void refusesTooSmall() {
        refusesValues(least - 1, Integer.MIN_VALUE);
    }

    void refusesTooLarge() {
        refusesValues(greatest + 1, Integer.MAX_VALUE);
    }

    private void refusesValues(int... values) {
        for (int value : values) {
            for (int index = 0; index < first.length; index += Math.max(1, first.length - 1)) {
                int tried = index;
                Refusals.everywhere(name + ", index " + index + ", value " + value, Refusals.ARGUMENT,
                        x -> call.set(x, tried, value));
            }
        }
    }

    void refusesIndexes() {
        for (int index : new int[] {-1, first.length, Integer.MIN_VALUE, Integer.MAX_VALUE}) {
            Refusals.everywhere(name + ", index " + index, Refusals.INDEX, x -> call.set(x, index, least));
        }
    }

    /** The exception of the index is listed first. */
    void refusesBoth() {
        for (int index : new int[] {-1, first.length}) {
            for (int value : new int[] {least - 1, greatest + 1}) {
                Refusals.everywhere(name + ", index " + index + ", value " + value, Refusals.INDEX,
                        x -> call.set(x, index, value));
            }
        }
    }

    /** A call that changes nothing is logged and saved like any other one. */
    void countsTheSameAgain() {
        FlowComputer x = new FlowComputer();
        long before = x.digest();
        call.set(x, 0, first[0]);
        Checks.same(name + ": events", x.events(), 1);
        Meters.event(name + " before the first second", x, 0, 0, FlowComputer.CONFIGURATION, number);
        x.run(1);
        call.set(x, first.length - 1, first[first.length - 1]);
        Checks.same(name + ": events of two", x.events(), 2);
        Meters.event(name + " after the first second", x, 1, 1, FlowComputer.CONFIGURATION, number);
        Checks.same(name + ": first undo", x.undo(), 2);
        Checks.same(name + ": events after undo", x.events(), 1);
        Checks.same(name + ": second undo", x.undo(), 1);
        Checks.same(name + ": third undo", x.undo(), 0);
        Checks.same(name + ": digest after all undone", x.digest(), before);
    }
}
