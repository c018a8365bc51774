import java.util.ArrayList;
import java.util.List;

/** States of a flow computer from which a call is tried: no state is saved in the first, three are in the others. */
enum Prepared {
    NEW {
        @Override
        FlowComputer make() {
            return new FlowComputer();
        }
    },

    /** A batch is open, both differential pressures are faulty in the high range, there is a row of each kind. */
    BUSY {
        @Override
        FlowComputer make() {
            FlowComputer x = new FlowComputer();
            setAll(x);
            x.run(3600);
            x.openBatch(1000000000, 999000000);
            x.run(5);
            x.setRaw(0, 11999);
            x.run(1);
            x.setRaw(3, 11999);
            x.setRaw(1, 11999);
            x.run(7);
            x.setRaw(3, 30000);
            return x;
        }
    },

    /** The latest batch is done, more records and events were made than are kept. */
    FULL {
        @Override
        FlowComputer make() {
            FlowComputer x = new FlowComputer();
            setAll(x);
            for (int day = 1; day <= 6; day++) {
                x.setContractHour(5 * day % 24);
                x.setRaw(0, 30000 + 1000 * day);
                x.setRaw(2, 11990 + 4 * day);
                x.run(5 * 3600);
            }
            x.openBatch(3000, 0);
            x.run(100);
            x.setMode(FlowComputer.GAS);
            x.setCutoff(100, 200);
            return x;
        }
    };

    private List<String> answers;
    private List<String> later;
    private List<String> earlier;

    abstract FlowComputer make();

    /** What the state tells if nothing is done to it. */
    List<String> answers() {
        if (answers == null) {
            answers = Answers.of(make());
        }
        return answers;
    }

    List<String> later() {
        if (later == null) {
            later = laterOf(make());
        }
        return later;
    }

    List<String> earlier() {
        if (earlier == null) {
            earlier = earlierOf(make());
        }
        return earlier;
    }

    /** What no answer tells at once shows up later: the sums, the faults of the last second, the day, the batch. */
    static List<String> laterOf(FlowComputer x) {
        List<String> told = new ArrayList<>();
        told.add("run(3600) = " + x.run(3600) + ", digest " + x.digest());
        told.add("setContractHour = " + x.setContractHour(nextHour(x)) + ", digest " + x.digest());
        told.add("run(3600) = " + x.run(3600) + ", digest " + x.digest() + ", days " + x.days());
        boolean closed = Checks.thrownBy(() -> told.add("closeBatch() = " + x.closeBatch())) == null;
        told.add("closed: " + closed + ", openBatch(9, 9) = " + x.openBatch(9, 9));
        told.add("run(4) = " + x.run(4) + ", digest " + x.digest());
        return told;
    }

    private static int nextHour(FlowComputer x) {
        long latest = x.hour(x.hours() - 1, 6);
        return (int) (latest / 3600 + 1) % 24;
    }

    /** All saved states, the latest one first, and the refusal behind them. */
    static List<String> earlierOf(FlowComputer x) {
        List<String> told = new ArrayList<>();
        for (int i = 0; i < 5; i++) {
            Class<?> thrown = Checks.thrownBy(() -> told.add("undo() = " + x.undo() + ", digest " + x.digest()));
            told.add("refused: " + thrown);
        }
        return told;
    }

    private static void setAll(FlowComputer x) {
        for (int t = 0; t < 4; t++) {
            x.setSpan(t, 9000 + t);
            x.setDamping(t, t + 1);
            x.setRaw(t, 30000 + 100 * t);
        }
        for (int i = 0; i < 6; i++) {
            x.setDensity(i, 8000 + 10 * i);
        }
        for (int i = 0; i < 5; i++) {
            x.setFactor(i, 9900 + 10 * i);
        }
        x.setMeter(1500);
        x.setCutoff(10, 20);
        x.setContractHour(1);
    }
}
