/** The boundary cases of promises 24 to 29: hour records, day records and events. */
final class BoundaryRecordsTest {
    private static final int FLOW = 3535;
    private static final int[] WRONG = {-1, Integer.MIN_VALUE, Integer.MAX_VALUE};

    private BoundaryRecordsTest() {
    }

    private interface Asked {
        long value(FlowComputer x, int index, int what);
    }

    private static final Asked HOUR = FlowComputer::hour;
    private static final Asked DAY = FlowComputer::day;
    private static final Asked EVENT = FlowComputer::event;

    public static void main(String[] args) {
        Suite.run(BoundaryRecordsTest.class);
    }

    private static FlowComputer afterHours(int hours) {
        FlowComputer x = Meters.flowing();
        runHours(x, hours);
        return x;
    }

    private static void runHours(FlowComputer x, int hours) {
        for (int i = 0; i < hours; i++) {
            x.run(3600);
        }
    }

    /** Each hour is a day: the contract hour goes on with the time. */
    private static FlowComputer afterDays(int days) {
        FlowComputer x = Meters.flowing();
        for (int i = 1; i <= days; i++) {
            x.setContractHour(i);
            x.run(3600);
        }
        return x;
    }

    /** Each event has a time and a value of its own. */
    private static FlowComputer afterEvents(int events) {
        FlowComputer x = new FlowComputer();
        for (int i = 1; i <= events; i++) {
            x.run(1);
            if (i % 2 == 0) {
                x.setMode(FlowComputer.LIQUID);
            } else {
                x.setMeter(1000);
            }
        }
        return x;
    }

    private static void noSuch(String what, Asked asked, FlowComputer x, int index) {
        Checks.refuses(what + " " + index, x, Refusals.INDEX, () -> asked.value(x, index, 0));
        Checks.refuses(what + " " + index + ", wrong value too", x, Refusals.INDEX, () -> asked.value(x, index, -1));
        Checks.refuses(what + " " + index + ", wrong value too", x, Refusals.INDEX, () -> asked.value(x, index, 7));
    }

    private static void whatRefused(String name, Asked asked, int what) {
        Refusals.in(Prepared.BUSY, name + "(0, " + what + ")", Refusals.ARGUMENT, x -> asked.value(x, 0, what));
        Refusals.in(Prepared.FULL, name + "(4, " + what + ")", Refusals.ARGUMENT, x -> asked.value(x, 4, what));
    }

    private static void indexRefused(String name, Asked asked, int kept) {
        for (int index : WRONG) {
            Refusals.everywhere(name + "(" + index + ", 0)", Refusals.INDEX, x -> asked.value(x, index, 0));
        }
        Refusals.in(Prepared.NEW, name + "(0, 0)", Refusals.INDEX, x -> asked.value(x, 0, 0));
        Refusals.in(Prepared.FULL, name + "(" + kept + ", 0)", Refusals.INDEX, x -> asked.value(x, kept, 0));
        Refusals.in(Prepared.FULL, name + "(" + kept + ", -1)", Refusals.INDEX, x -> asked.value(x, kept, -1));
    }

    // ---- hour records

    static void promise24NoHourYet() {
        FlowComputer x = new FlowComputer();
        Checks.same("hours at first", x.hours(), 0);
        x.run(3599);
        Checks.same("hours a second before the end", x.hours(), 0);
    }

    static void promise24TheFirstHour() {
        FlowComputer x = new FlowComputer();
        x.run(3599);
        x.run(1);
        Checks.same("hours", x.hours(), 1);
        x.run(3599);
        Checks.same("hours a second before the next end", x.hours(), 1);
        x.run(1);
        Checks.same("hours at the next end", x.hours(), 2);
    }

    static void promise24AsManyHoursAsAreKept() {
        Checks.same("hours of 23", afterHours(23).hours(), 23);
        Checks.same("hours of 24", afterHours(24).hours(), 24);
    }

    static void promise24OneHourMoreThanAreKept() {
        Checks.same("hours of 25", afterHours(25).hours(), 24);
    }

    static void promise24SeveralHoursInOneCall() {
        FlowComputer x = Meters.flowing();
        x.run(20000);
        Checks.same("hours", x.hours(), 5);
        Checks.same("mass of the present one", x.total(3), 2000 * FLOW);
        for (int i = 0; i < 5; i++) {
            Meters.hour("hour " + i, x, i, 3600 * FLOW, 3600, 1250, 0, -500, 0, 3600 * (i + 1));
        }
    }

    static void promise25NoHourRecord() {
        FlowComputer x = new FlowComputer();
        x.run(3599);
        noSuch("hour", HOUR, x, 0);
    }

    static void promise25OneHourRecord() {
        FlowComputer x = afterHours(1);
        Checks.same("hour(0, 6)", x.hour(0, 6), 3600);
        noSuch("hour", HOUR, x, 1);
    }

    static void promise25TheLastHourRecordThatFits() {
        FlowComputer x = afterHours(24);
        Checks.same("the oldest one", x.hour(0, 6), 3600);
        Checks.same("the latest one", x.hour(23, 6), 24 * 3600);
        noSuch("hour", HOUR, x, 24);
    }

    static void promise25OneHourRecordMore() {
        FlowComputer x = afterHours(25);
        for (int i = 0; i < 24; i++) {
            Meters.hour("the latest 24", x, i, 3600 * FLOW, 3600, 1250, 0, -500, 0, 3600 * (i + 2));
        }
        noSuch("hour", HOUR, x, 24);
    }

    static void promise25AllHourRecordsDroppedTwice() {
        FlowComputer x = afterHours(49);
        for (int i = 0; i < 24; i++) {
            Checks.same("time of hour " + i, x.hour(i, 6), 3600 * (i + 26));
        }
    }

    static void promise25NoSuchHourRecord() {
        indexRefused("hour", HOUR, 24);
    }

    static void promise25LeastAndGreatestWhat() {
        FlowComputer x = afterHours(1);
        Checks.same("hour(0, 0)", x.hour(0, 0), 3600 * FLOW);
        Checks.same("hour(0, 6)", x.hour(0, 6), 3600);
    }

    static void promise25WhatTooSmall() {
        whatRefused("hour", HOUR, -1);
        whatRefused("hour", HOUR, Integer.MIN_VALUE);
    }

    static void promise25WhatTooLarge() {
        whatRefused("hour", HOUR, 7);
        whatRefused("hour", HOUR, Integer.MAX_VALUE);
    }

    static void promise25NoFlowTime() {
        FlowComputer x = Meters.flowing();
        x.setCutoff(100000, 100000);
        x.run(1800);
        Meters.show(x, 0, 1251);
        x.run(1800);
        Meters.hour("means over all seconds", x, 0, 0, 0, 1250, 0, -500, 0, 3600);
    }

    static void promise25FlowTimeOfTheFirstSecond() {
        FlowComputer x = Meters.flowing();
        x.run(1);
        x.setCutoff(100000, 100000);
        showOthers(x);
        x.run(3599);
        Meters.hour("means over the first second", x, 0, FLOW, 1, 1250, 0, -500, 0, 3600);
    }

    static void promise25FlowTimeOfTheLastSecond() {
        FlowComputer x = new FlowComputer();
        showOthers(x);
        x.setCutoff(100000, 100000);
        x.run(3599);
        Meters.show(x, 0, 1250);
        Meters.show(x, 2, 0);
        Meters.show(x, 3, -500);
        x.setCutoff(0, 0);
        x.run(1);
        Meters.hour("means over the last second", x, 0, FLOW, 1, 1250, 0, -500, 0, 3600);
    }

    private static void showOthers(FlowComputer x) {
        Meters.show(x, 0, 2000);
        Meters.show(x, 2, 1000);
        Meters.show(x, 3, 1000);
    }

    static void promise25FlowTimeOfAllSecondsButOne() {
        FlowComputer x = Meters.flowing();
        x.run(3599);
        x.setCutoff(100000, 100000);
        showOthers(x);
        x.run(1);
        Meters.hour("means over all but the last", x, 0, 3599 * FLOW, 3599, 1250, 0, -500, 0, 3600);
    }

    static void promise25FlowTimeOfAllSeconds() {
        FlowComputer x = new FlowComputer();
        x.run(3600);
        Meters.hour("flowing without flow", x, 0, 0, 3600, 0, 0, -500, 0, 3600);
    }

    /** One second of one less makes a mean of one less, in each hour anew. */
    static void promise25MeansAreRoundedDown() {
        FlowComputer x = new FlowComputer();
        means(x);
    }

    static void promise25MeansWithoutFlowTimeAreRoundedDown() {
        FlowComputer x = new FlowComputer();
        x.setCutoff(100000, 100000);
        means(x);
    }

    private static void means(FlowComputer x) {
        for (int hour = 0; hour < 4; hour++) {
            showAll(x, 24 + hour % 2);
            x.run(1);
            showAll(x, 25);
            x.run(3599);
            for (int what = 2; what <= 4; what++) {
                Checks.same("hour(" + hour + ", " + what + ")", x.hour(hour, what), 24 + hour % 2);
            }
        }
    }

    private static void showAll(FlowComputer x, int reading) {
        Meters.show(x, 0, reading);
        Meters.show(x, 2, reading);
        Meters.show(x, 3, reading);
    }

    static void promise25MeansBelowZeroAreRoundedDown() {
        FlowComputer x = new FlowComputer();
        Meters.show(x, 2, -1);
        Meters.show(x, 3, -1);
        x.run(1);
        Meters.show(x, 2, 0);
        Meters.show(x, 3, 0);
        x.run(3599);
        Checks.same("mean pressure", x.hour(0, 3), -1);
        Checks.same("mean temperature", x.hour(0, 4), -1);
        x.run(3600);
        Checks.same("mean pressure of zeros", x.hour(1, 3), 0);
        Checks.same("mean temperature of zeros", x.hour(1, 4), 0);
    }

    static void promise25NoAlarms() {
        FlowComputer x = new FlowComputer();
        for (int t = 0; t < 4; t++) {
            x.setRaw(t, 12000);
        }
        x.run(3600);
        Checks.same("alarms", x.hour(0, 5), 0);
    }

    static void promise25AllAlarms() {
        FlowComputer x = new FlowComputer();
        for (int t = 0; t < 4; t++) {
            x.setRaw(t, 11999);
        }
        x.run(3600);
        Checks.same("alarms", x.hour(0, 5), 31);
    }

    static void promise25TheHeldAlarmFromTheFirstHeldSecond() {
        FlowComputer x = new FlowComputer();
        x.setRaw(0, 11999);
        x.run(3600);
        Checks.same("only low is faulty", x.hour(0, 5), 1);
        x.setRaw(1, 11999);
        x.run(1);
        x.setRaw(0, 12000);
        x.run(3599);
        Checks.same("one held second", x.hour(1, 5), 1 + 2 + 16);
        x.run(3600);
        Checks.same("only high is faulty", x.hour(2, 5), 2);
    }

    static void promise25AlarmsOfTheFirstAndTheLastSecond() {
        FlowComputer x = new FlowComputer();
        x.run(3599);
        x.setRaw(2, 11999);
        x.run(1);
        x.setRaw(2, 12000);
        x.setRaw(3, 11999);
        x.run(1);
        x.setRaw(3, 12000);
        x.run(3599);
        x.run(3600);
        Checks.same("of the last second", x.hour(0, 5), 4);
        Checks.same("of the first second", x.hour(1, 5), 8);
        Checks.same("of none", x.hour(2, 5), 0);
    }

    // ---- day records

    static void promise26NoDayYet() {
        FlowComputer x = new FlowComputer();
        Checks.same("days at first", x.days(), 0);
        runHours(x, 23);
        x.run(3599);
        Checks.same("days a second before the end", x.days(), 0);
    }

    static void promise26TheFirstDay() {
        FlowComputer x = afterHours(24);
        Checks.same("days", x.days(), 1);
        runHours(x, 23);
        Checks.same("days an hour before the next end", x.days(), 1);
        x.run(3600);
        Checks.same("days at the next end", x.days(), 2);
    }

    static void promise26AsManyDaysAsAreKept() {
        Checks.same("days of 4", afterDays(4).days(), 4);
        Checks.same("days of 5", afterDays(5).days(), 5);
    }

    static void promise26OneDayMoreThanAreKept() {
        Checks.same("days of 6", afterDays(6).days(), 5);
    }

    static void promise27NoDayRecord() {
        noSuch("day", DAY, afterHours(23), 0);
    }

    static void promise27OneDayRecord() {
        FlowComputer x = afterHours(24);
        Meters.day("one", x, 0, 86400 * FLOW, 86400, 24, 86400);
        noSuch("day", DAY, x, 1);
    }

    static void promise27TheLastDayRecordThatFits() {
        FlowComputer x = afterDays(5);
        Checks.same("the oldest one", x.day(0, 3), 3600);
        Checks.same("the latest one", x.day(4, 3), 5 * 3600);
        noSuch("day", DAY, x, 5);
    }

    static void promise27OneDayRecordMore() {
        FlowComputer x = afterDays(6);
        for (int i = 0; i < 5; i++) {
            Meters.day("the latest 5", x, i, 3600 * FLOW, 3600, 1, 3600 * (i + 2));
        }
        noSuch("day", DAY, x, 5);
    }

    static void promise27AllDayRecordsDroppedTwice() {
        FlowComputer x = afterDays(11);
        for (int i = 0; i < 5; i++) {
            Checks.same("time of day " + i, x.day(i, 3), 3600 * (i + 7));
        }
    }

    static void promise27NoSuchDayRecord() {
        indexRefused("day", DAY, 5);
    }

    static void promise27LeastAndGreatestWhat() {
        FlowComputer x = afterDays(1);
        Checks.same("day(0, 0)", x.day(0, 0), 3600 * FLOW);
        Checks.same("day(0, 3)", x.day(0, 3), 3600);
    }

    static void promise27WhatTooSmall() {
        whatRefused("day", DAY, -1);
        whatRefused("day", DAY, Integer.MIN_VALUE);
    }

    static void promise27WhatTooLarge() {
        whatRefused("day", DAY, 4);
        whatRefused("day", DAY, Integer.MAX_VALUE);
    }

    static void promise27ADayOfOneHour() {
        FlowComputer x = Meters.flowing();
        x.setContractHour(1);
        x.run(3600);
        Meters.day("one hour", x, 0, 3600 * FLOW, 3600, 1, 3600);
    }

    static void promise27ADayToTheGreatestContractHour() {
        FlowComputer x = Meters.flowing();
        x.setContractHour(23);
        runHours(x, 24);
        Checks.same("days", x.days(), 1);
        Meters.day("23 hours", x, 0, 82800 * FLOW, 82800, 23, 82800);
        runHours(x, 23);
        Meters.day("24 hours", x, 1, 86400 * FLOW, 86400, 24, 47 * 3600);
    }

    static void promise27TheContractHourThatHasJustBegun() {
        FlowComputer x = afterHours(5);
        x.setContractHour(5);
        runHours(x, 23);
        Checks.same("days before it comes again", x.days(), 0);
        x.run(3600);
        Meters.day("29 hours", x, 0, 29 * 3600 * FLOW, 29 * 3600, 29, 29 * 3600);
    }

    static void promise27TheContractHourSetInTheLastSecond() {
        FlowComputer x = Meters.flowing();
        x.run(3599);
        x.setContractHour(1);
        x.run(1);
        Meters.day("set just in time", x, 0, 3600 * FLOW, 3600, 1, 3600);
    }

    /** More hours than hour records are kept. */
    static void promise27ADayOfMoreHoursThanAreKept() {
        FlowComputer x = afterHours(23);
        x.setContractHour(23);
        runHours(x, 23);
        x.setContractHour(22);
        runHours(x, 23);
        Checks.same("days", x.days(), 0);
        x.run(3600);
        Checks.same("hours", x.hours(), 24);
        Meters.day("70 hours", x, 0, 252000L * FLOW, 252000, 70, 252000);
    }

    static void promise27ADayWithoutFlow() {
        FlowComputer x = Meters.flowing();
        x.setCutoff(100000, 100000);
        x.setContractHour(2);
        runHours(x, 2);
        Meters.day("not flowing", x, 0, 0, 0, 2, 7200);
    }

    // ---- events

    static void promise28NoEventYet() {
        FlowComputer x = new FlowComputer();
        x.run(20000);
        x.setRaw(0, 13108);
        Checks.same("events", x.events(), 0);
    }

    static void promise28OneEvent() {
        Checks.same("events", afterEvents(1).events(), 1);
    }

    static void promise28AsManyEventsAsAreKept() {
        Checks.same("events of 29", afterEvents(29).events(), 29);
        Checks.same("events of 30", afterEvents(30).events(), 30);
    }

    static void promise28OneEventMoreThanAreKept() {
        Checks.same("events of 31", afterEvents(31).events(), 30);
    }

    static void promise29NoEvent() {
        noSuch("event", EVENT, new FlowComputer(), 0);
    }

    static void promise29OneEvent() {
        FlowComputer x = afterEvents(1);
        Meters.event("one", x, 0, 1, FlowComputer.CONFIGURATION, 5);
        noSuch("event", EVENT, x, 1);
    }

    static void promise29TheLastEventThatFits() {
        FlowComputer x = afterEvents(30);
        Meters.event("the oldest one", x, 0, 1, FlowComputer.CONFIGURATION, 5);
        Meters.event("the latest one", x, 29, 30, FlowComputer.CONFIGURATION, 2);
        noSuch("event", EVENT, x, 30);
    }

    static void promise29OneEventMore() {
        FlowComputer x = afterEvents(31);
        for (int i = 0; i < 30; i++) {
            Meters.event("the latest 30", x, i, i + 2, FlowComputer.CONFIGURATION, i % 2 == 0 ? 2 : 5);
        }
        noSuch("event", EVENT, x, 30);
    }

    static void promise29AllEventsDroppedTwice() {
        FlowComputer x = afterEvents(61);
        for (int i = 0; i < 30; i++) {
            Checks.same("time of event " + i, x.event(i, 0), i + 32);
        }
    }

    static void promise29SeveralEventsOfOneSecondDropAsMany() {
        FlowComputer x = afterEvents(29);
        for (int t = 0; t < 4; t++) {
            x.setRaw(t, 0);
        }
        x.run(1);
        Checks.same("events", x.events(), 30);
        Meters.event("the oldest one", x, 0, 4, FlowComputer.CONFIGURATION, 2);
        for (int t = 0; t < 4; t++) {
            Meters.event("the latest ones", x, 26 + t, 30, FlowComputer.FAULT, t);
        }
    }

    static void promise29NoSuchEvent() {
        indexRefused("event", EVENT, 30);
    }

    static void promise29LeastAndGreatestWhat() {
        FlowComputer x = afterEvents(7);
        Checks.same("event(6, 0)", x.event(6, 0), 7);
        Checks.same("event(6, 2)", x.event(6, 2), 5);
    }

    static void promise29WhatTooSmall() {
        whatRefused("event", EVENT, -1);
        whatRefused("event", EVENT, Integer.MIN_VALUE);
    }

    static void promise29WhatTooLarge() {
        whatRefused("event", EVENT, 3);
        whatRefused("event", EVENT, Integer.MAX_VALUE);
    }

    static void promise29LeastAndGreatestValues() {
        FlowComputer x = new FlowComputer();
        x.setSpan(0, 100);
        x.setContractHour(23);
        Meters.event("least time, kind 5, value 0", x, 0, 0, FlowComputer.CONFIGURATION, 0);
        Meters.event("greatest setting", x, 1, 0, FlowComputer.CONFIGURATION, 7);
    }
}
