/** Promises 24 to 29: hour records, day records and events. */
final class RecordsTest {
    private static final Class<?> INDEX = IndexOutOfBoundsException.class;
    private static final Class<?> ARGUMENT = IllegalArgumentException.class;

    private RecordsTest() {
    }

    private interface Asked {
        long value(int index, int what);
    }

    public static void main(String[] args) {
        hourOverFlowTime();
        hourWithoutFlow();
        meansJustBelow("over a whole hour of flow", new FlowComputer(), 3600);
        hourOfOneFlowingSecond();
        alarms();
        hoursKept();
        dayOfHours();
        daysByContractHour();
        dayOfManyHours();
        daysKept();
        eventsKept();
        refused();
        Checks.end();
    }

    private static void hourOverFlowTime() {
        FlowComputer x = Meters.flowing();
        x.setCutoff(1000, 2000);
        x.run(1000);
        Meters.show(x, 0, 25);
        Meters.show(x, 2, 77);
        x.run(2599);
        Checks.same("no hour yet", x.hours(), 0);
        Checks.same("mass of the present hour", x.total(3), 3535000);
        x.run(1);
        Checks.same("hours", x.hours(), 1);
        Checks.same("mass of the new hour", x.total(3), 0);
        Meters.hour("over the flow time", x, 0, 3535000, 1000, 1250, 0, -500, 0, 3600);
        x.setCutoff(0, 0);
        Checks.same("new hour", x.run(3600), 1800000);
        Meters.hour("a new hour begins", x, 1, 1800000, 3600, 25, 77, -500, 0, 7200);
    }

    private static void hourWithoutFlow() {
        FlowComputer x = new FlowComputer();
        x.setCutoff(100000, 100000);
        meansJustBelow("over all seconds", x, 0);
    }

    /** Each sum is one less than what would give the next mean, so anything left of the hour before would show. */
    private static void meansJustBelow(String name, FlowComputer x, int flowTime) {
        for (int i = 0; i < 3; i++) {
            Meters.show(x, 0, 24);
            Meters.show(x, 2, -1);
            Meters.show(x, 3, -301);
            x.run(1);
            Meters.show(x, 0, 25);
            Meters.show(x, 2, 0);
            Meters.show(x, 3, -300);
            long mass = x.total(3) + x.run(3599);
            Meters.hour(name, x, i, mass, flowTime, 24, -1, -301, 0, 3600 * (i + 1));
        }
    }

    private static void hourOfOneFlowingSecond() {
        FlowComputer x = Meters.flowing();
        Meters.show(x, 2, 55);
        Meters.show(x, 3, -33);
        x.run(1);
        x.setCutoff(100000, 100000);
        Meters.show(x, 0, 2000);
        x.run(3599);
        Meters.hour("one flowing second", x, 0, 3535, 1, 1250, 55, -33, 0, 3600);
    }

    private static void alarms() {
        FlowComputer x = new FlowComputer();
        for (int t = 0; t < 4; t++) {
            Meters.fail(x, t);
            x.run(1);
            Meters.repair(x, t);
            x.run(3599);
            Checks.same("alarms of hour " + t, x.hour(t, 5), 1 << t);
        }
        x.run(3600);
        Checks.same("no alarms", x.hour(4, 5), 0);
        Meters.fail(x, 0);
        Meters.fail(x, 1);
        x.run(1);
        Meters.repair(x, 0);
        Meters.repair(x, 1);
        Meters.fail(x, 2);
        x.run(1);
        Meters.repair(x, 2);
        x.run(3598);
        Checks.same("alarms are gathered", x.hour(5, 5), 1 + 2 + 4 + 16);
        Meters.fail(x, 3);
        x.setRaw(3, 13107);
        x.run(3600);
        Checks.same("a fault of no second", x.hour(6, 5), 0);
    }

    private static void hoursKept() {
        FlowComputer x = new FlowComputer();
        for (int i = 1; i <= 30; i++) {
            Meters.show(x, 0, i);
            x.run(3600);
            Checks.same("hours after " + i, x.hours(), Math.min(i, 24));
            int oldest = Math.max(1, i - 23);
            Checks.same("oldest after " + i, x.hour(0, 6), 3600L * oldest);
            Checks.same("its differential pressure", x.hour(0, 2), oldest);
            Checks.same("newest after " + i, x.hour(x.hours() - 1, 6), 3600L * i);
        }
        Meters.hour("the middle one", x, 10, 3600 * 412, 3600, 17, 0, -500, 0, 3600 * 17);
    }

    private static void runHours(FlowComputer x, int hours) {
        for (int i = 0; i < hours; i++) {
            x.run(3600);
        }
    }

    private static void dayOfHours() {
        FlowComputer x = Meters.flowing();
        runHours(x, 23);
        x.setCutoff(4000, 4000);
        x.run(3599);
        Checks.same("no day yet", x.days(), 0);
        x.run(1);
        Checks.same("days", x.days(), 1);
        Meters.day("first day", x, 0, 23L * 3600 * 3535, 23 * 3600, 24, 86400);
        x.setCutoff(0, 0);
        runHours(x, 24);
        Meters.day("second day", x, 1, 24L * 3600 * 3535, 24 * 3600, 24, 172800);
    }

    private static void daysByContractHour() {
        FlowComputer x = Meters.flowing();
        x.setContractHour(2);
        runHours(x, 1);
        Checks.same("no day yet", x.days(), 0);
        runHours(x, 1);
        Meters.day("at the contract hour", x, 0, 7200L * 3535, 7200, 2, 7200);
        x.setContractHour(3);
        runHours(x, 1);
        Meters.day("at the next contract hour", x, 1, 3600L * 3535, 3600, 1, 10800);
        x.setContractHour(3);
        runHours(x, 24);
        Meters.day("a whole day", x, 2, 86400L * 3535, 86400, 24, 97200);
        Checks.same("days", x.days(), 3);
        x.setContractHour(23);
        runHours(x, 20);
        Meters.day("at the last hour", x, 3, 72000L * 3535, 72000, 20, 169200);
    }

    private static void dayOfManyHours() {
        FlowComputer x = Meters.flowing();
        runHours(x, 23);
        x.setContractHour(22);
        runHours(x, 22);
        Checks.same("no day in 45 hours", x.days(), 0);
        runHours(x, 1);
        Meters.day("hours that are not kept any more", x, 0, 46L * 3600 * 3535, 46 * 3600, 46, 46 * 3600);
        Checks.same("hours", x.hours(), 24);
    }

    private static void daysKept() {
        FlowComputer x = new FlowComputer();
        for (int i = 1; i <= 8; i++) {
            x.setContractHour(i);
            Meters.show(x, 0, i);
            x.run(3600);
            Checks.same("days after " + i, x.days(), Math.min(i, 5));
            Checks.same("oldest after " + i, x.day(0, 3), 3600L * Math.max(1, i - 4));
            Checks.same("newest after " + i, x.day(x.days() - 1, 3), 3600L * i);
            Checks.same("hours of the newest", x.day(x.days() - 1, 2), 1);
        }
        Meters.day("the middle one", x, 2, 3600 * 244, 3600, 1, 3600 * 6);
    }

    private static void eventsKept() {
        FlowComputer x = new FlowComputer();
        for (int i = 1; i <= 36; i++) {
            x.run(1);
            if (i % 2 == 0) {
                x.setMode(0);
            } else {
                x.setContractHour(0);
            }
            Checks.same("events after " + i, x.events(), Math.min(i, 30));
            int oldest = Math.max(1, i - 29);
            Meters.event("oldest after " + i, x, 0, oldest, FlowComputer.CONFIGURATION, oldest % 2 == 0 ? 2 : 7);
            Meters.event("newest after " + i, x, x.events() - 1, i, FlowComputer.CONFIGURATION, i % 2 == 0 ? 2 : 7);
        }
        Meters.event("the middle one", x, 12, 19, FlowComputer.CONFIGURATION, 7);
    }

    private static void refused() {
        FlowComputer x = new FlowComputer();
        refused("hour of none", x, x::hour, 0, 6);
        refused("day of none", x, x::day, 0, 3);
        refused("event of none", x, x::event, 0, 2);
        for (int i = 1; i <= 6; i++) {
            x.setContractHour(i);
            x.run(3600);
        }
        refused("hour of six", x, x::hour, 6, 6);
        refused("day of five", x, x::day, 5, 3);
        refused("event of six", x, x::event, 6, 2);
        runHours(x, 24);
        for (int i = 0; i < 30; i++) {
            x.setMode(0);
        }
        refused("hour of all", x, x::hour, 24, 6);
        refused("event of all", x, x::event, 30, 2);
    }

    private static void refused(String name, FlowComputer x, Asked asked, int size, int greatest) {
        for (int wrong : new int[] {-1, size, Integer.MIN_VALUE, Integer.MAX_VALUE}) {
            Checks.refuses(name + ", index " + wrong, x, INDEX, () -> asked.value(wrong, 0));
            Checks.refuses(name + ", both wrong " + wrong, x, INDEX, () -> asked.value(wrong, -1));
        }
        for (int i = 0; i < size; i += Math.max(1, size - 1)) {
            int index = i;
            for (int wrong : new int[] {-1, greatest + 1, Integer.MIN_VALUE, Integer.MAX_VALUE}) {
                Checks.refuses(name + ", what " + wrong, x, ARGUMENT, () -> asked.value(index, wrong));
            }
        }
    }
}
