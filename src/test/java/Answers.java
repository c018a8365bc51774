import java.util.ArrayList;
import java.util.List;

/** All that a flow computer tells without being changed, each answer behind its call; some 320 calls at most. */
final class Answers {
    private Answers() {
    }

    static List<String> of(FlowComputer x) {
        List<String> all = new ArrayList<>();
        addValues(all, x);
        addFlows(all, x);
        addRecords(all, x);
        all.add("digest() = " + x.digest());
        return all;
    }

    private static void addValues(List<String> all, FlowComputer x) {
        for (int t = 0; t < 4; t++) {
            for (int what = 0; what < 4; what++) {
                all.add("transmitter(" + t + ", " + what + ") = " + x.transmitter(t, what));
            }
        }
        all.add("range() = " + x.range());
        all.add("differential() = " + x.differential());
        all.add("density() = " + x.density());
        all.add("flow() = " + x.flow());
        all.add("isFlowing() = " + x.isFlowing());
        for (int what = 0; what < 4; what++) {
            all.add("total(" + what + ") = " + x.total(what));
        }
        all.add("valve() = " + x.valve());
    }

    private static void addFlows(List<String> all, FlowComputer x) {
        int[][] places = {{0, 0, -500}, {1, 1, 0}, {1250, 5000, 300}, {30000, 30000, 3000}};
        for (int[] place : places) {
            all.add("flowFor(" + place[0] + ", " + place[1] + ", " + place[2] + ") = "
                    + x.flowFor(place[0], place[1], place[2]));
        }
        for (long flow : new long[] {0, 1, 3000, 1000000000}) {
            all.add("differentialFor(" + flow + ") = " + x.differentialFor(flow));
        }
    }

    private static void addRecords(List<String> all, FlowComputer x) {
        all.add("hours() = " + x.hours());
        for (int i = 0; i < x.hours(); i++) {
            for (int what = 0; what < 7; what++) {
                all.add("hour(" + i + ", " + what + ") = " + x.hour(i, what));
            }
        }
        all.add("days() = " + x.days());
        for (int i = 0; i < x.days(); i++) {
            for (int what = 0; what < 4; what++) {
                all.add("day(" + i + ", " + what + ") = " + x.day(i, what));
            }
        }
        all.add("events() = " + x.events());
        for (int i = 0; i < x.events(); i++) {
            for (int what = 0; what < 3; what++) {
                all.add("event(" + i + ", " + what + ") = " + x.event(i, what));
            }
        }
    }

    /** Tells the first answer that differs. */
    static void same(String what, List<String> got, List<String> due) {
        int i = 0;
        while (i < got.size() && i < due.size() && got.get(i).equals(due.get(i))) {
            i++;
        }
        String there = i < got.size() ? got.get(i) : "nothing";
        String wanted = i < due.size() ? due.get(i) : "nothing";
        Checks.yes(what + ": answered " + there + ", due is " + wanted, there.equals(wanted));
    }
}
