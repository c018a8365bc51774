public final class FlowComputer {
    public static final int NONE = -1;
    public static final int LIQUID = 0, GAS = 1;
    public static final int FAULT = 0, CLEAR = 1, SWITCH = 2, HELD = 3, BATCH = 4, CONFIGURATION = 5;

    private static final int TRANSMITTERS = 4;
    private static final int DENSITIES = 6;
    private static final int FACTORS = 5;
    private static final int LEAST_SOUND_RAW = 12000;
    private static final int LOW = 0;
    private static final int HIGH = 1;
    private static final int HELD_LIMIT = 11;
    private static final int HELD_ALARM = 1 << 4;
    private static final int CLOSED = 0;
    private static final int SLOW = 1;
    private static final int OPEN = 2;
    private static final int SECONDS_OF_HOUR = 3600;
    private static final int HOURS_OF_DAY = 24;
    private static final int GREATEST_DIFFERENTIAL = 30000;
    private static final int GREATEST_FLOW = 1000000000;
    private static final int SAVED_STATES = 3;
    private static final int HOUR_RECORDS = 24;
    private static final int HOUR_VALUES = 7;
    private static final int DAY_RECORDS = 5;
    private static final int DAY_VALUES = 4;
    private static final int EVENTS = 30;
    private static final int EVENT_VALUES = 3;
    // The square root never needs more than 23 bits: 100 * 30000 * (the greatest density, below 11000000) < 2^46.
    private static final int ROOT_TOP_BIT = 1 << 22;
    private static final int[] DENSITY_TEMPERATURES = {-200, 0, 200, 400, 600, 800};
    private static final int[] FACTOR_FLOWS = {0, 1000, 3000, 10000, 30000};

    // The four states go round: a saved state is written over the one that is dropped, so no call makes a new one.
    private State now;
    private State savedLast;
    private State savedBefore;
    private State savedFirst;
    private int saved;

    public FlowComputer() {
        now = new State();
        savedLast = new State();
        savedBefore = new State();
        savedFirst = new State();
    }

    // ---- settings

    public int setSpan(int transmitter, int span) throws IndexOutOfBoundsException, IllegalArgumentException {
        needIndex(transmitter, TRANSMITTERS);
        needBetween(span, 100, 30000);
        save();
        Transmitter changed = now.transmitterAt(transmitter);
        int previous = changed.span;
        changed.span = span;
        now.logSetting(0);
        return previous;
    }

    public int setDamping(int transmitter, int damping) throws IndexOutOfBoundsException, IllegalArgumentException {
        needIndex(transmitter, TRANSMITTERS);
        needBetween(damping, 0, 8);
        save();
        Transmitter changed = now.transmitterAt(transmitter);
        int previous = changed.damping;
        changed.damping = damping;
        now.logSetting(1);
        return previous;
    }

    public int setMode(int mode) throws IllegalArgumentException {
        needBetween(mode, LIQUID, GAS);
        save();
        int previous = now.formula.mode;
        now.formula.mode = mode;
        now.logSetting(2);
        return previous;
    }

    public int setDensity(int index, int density) throws IndexOutOfBoundsException, IllegalArgumentException {
        needIndex(index, DENSITIES);
        needBetween(density, 1, 20000);
        save();
        int previous = now.formula.densities[index];
        now.formula.densities[index] = density;
        now.logSetting(3);
        return previous;
    }

    public int setFactor(int index, int factor) throws IndexOutOfBoundsException, IllegalArgumentException {
        needIndex(index, FACTORS);
        needBetween(factor, 9000, 11000);
        save();
        int previous = now.formula.factors[index];
        now.formula.factors[index] = factor;
        now.logSetting(4);
        return previous;
    }

    public int setMeter(int constant) throws IllegalArgumentException {
        needBetween(constant, 1, 100000);
        save();
        int previous = now.formula.constant;
        now.formula.constant = constant;
        now.logSetting(5);
        return previous;
    }

    public int setCutoff(int off, int on) throws IllegalArgumentException {
        needBetween(on, 0, 100000);
        needBetween(off, 0, on);
        save();
        int previous = now.cutoff.off;
        now.cutoff.off = off;
        now.cutoff.on = on;
        now.logSetting(6);
        return previous;
    }

    public int setContractHour(int hour) throws IllegalArgumentException {
        needBetween(hour, 0, 23);
        save();
        int previous = now.contractHour;
        now.contractHour = hour;
        now.logSetting(7);
        return previous;
    }

    public int setRaw(int transmitter, int raw) throws IndexOutOfBoundsException, IllegalArgumentException {
        needIndex(transmitter, TRANSMITTERS);
        needBetween(raw, 0, 65535);
        save();
        Transmitter changed = now.transmitterAt(transmitter);
        changed.raw = raw;
        return changed.reading();
    }

    // ---- time and batches

    public long run(int seconds) throws IllegalArgumentException {
        needBetween(seconds, 1, 20000);
        save();
        long before = now.mass;
        for (int i = 0; i < seconds; i++) {
            now.passSecond();
        }
        return now.mass - before;
    }

    public int openBatch(int preset, int slow) throws IllegalArgumentException, IllegalStateException {
        needBetween(preset, 1, 1000000000);
        needBetween(slow, 0, 1000000000);
        needState(!now.batch.open);
        save();
        now.batch.begin(preset, slow);
        return now.batch.opened;
    }

    public long closeBatch() throws IllegalStateException {
        needState(now.batch.open);
        save();
        now.batch.end();
        return now.batch.mass;
    }

    // ---- values

    public int transmitter(int transmitter, int what) throws IndexOutOfBoundsException, IllegalArgumentException {
        needIndex(transmitter, TRANSMITTERS);
        needBetween(what, 0, 3);
        Transmitter asked = now.transmitterAt(transmitter);
        switch (what) {
            case 0:
                return asked.reading();
            case 1:
                return asked.filtered;
            case 2:
                return asked.isFaulty() ? 1 : 0;
            default:
                return asked.raw;
        }
    }

    public int range() {
        return now.range;
    }

    public int differential() {
        return now.differential;
    }

    public long density() {
        return now.presentDensity();
    }

    public long flow() {
        return now.flow;
    }

    public boolean isFlowing() {
        return now.cutoff.flowing;
    }

    public long total(int what) throws IllegalArgumentException {
        needBetween(what, 0, 3);
        return now.totalOf(what);
    }

    public int valve() {
        return now.batch.valve;
    }

    public long flowFor(int differential, int pressure, int temperature) throws IllegalArgumentException {
        needBetween(differential, 0, GREATEST_DIFFERENTIAL);
        needBetween(pressure, 0, 30000);
        needBetween(temperature, -500, 3000);
        return now.formula.flowAt(differential, pressure, now.formula.densityAt(pressure, temperature));
    }

    public int differentialFor(long flow) throws IllegalArgumentException {
        needBetween(flow, 0, GREATEST_FLOW);
        int pressure = now.pressure.filtered;
        long density = now.presentDensity();
        // The rounding of Y and of the meter factor lets the flow fall now and then: a bisection could miss the least.
        for (int differential = 0; differential <= GREATEST_DIFFERENTIAL; differential++) {
            if (now.formula.flowAt(differential, pressure, density) >= flow) {
                return differential;
            }
        }
        return NONE;
    }

    // ---- records and events

    public int hours() {
        return now.hourRecords.count;
    }

    public long hour(int index, int what) throws IndexOutOfBoundsException, IllegalArgumentException {
        return valueOf(now.hourRecords, index, what);
    }

    public int days() {
        return now.dayRecords.count;
    }

    public long day(int index, int what) throws IndexOutOfBoundsException, IllegalArgumentException {
        return valueOf(now.dayRecords, index, what);
    }

    public int events() {
        return now.eventLog.count;
    }

    public long event(int index, int what) throws IndexOutOfBoundsException, IllegalArgumentException {
        return valueOf(now.eventLog, index, what);
    }

    // ---- undo and checksum

    public int undo() throws IllegalStateException {
        needState(saved > 0);
        State undone = now;
        now = savedLast;
        savedLast = savedBefore;
        savedBefore = savedFirst;
        savedFirst = undone;
        saved--;
        return saved;
    }

    public long digest() {
        return now.hashAfter(hashed(19735, saved));
    }

    // ---- helpers

    private void save() {
        State copy = savedFirst;
        copy.copyFrom(now);
        savedFirst = savedBefore;
        savedBefore = savedLast;
        savedLast = copy;
        saved = Math.min(saved + 1, SAVED_STATES);
    }

    private static long valueOf(History history, int index, int what) {
        needIndex(index, history.count);
        needBetween(what, 0, history.width - 1);
        return history.valueAt(index, what);
    }

    private static void needIndex(int index, int size) {
        if (index < 0 || index >= size) {
            throw new IndexOutOfBoundsException();
        }
    }

    private static void needBetween(long value, long least, long greatest) {
        if (value < least || value > greatest) {
            throw new IllegalArgumentException();
        }
    }

    private static void needState(boolean holds) {
        if (!holds) {
            throw new IllegalStateException();
        }
    }

    private static long hashed(long hash, long value) {
        return 31 * hash + value;
    }

    /** All that undo restores. */
    private static final class State {
        int time;
        int contractHour;
        final Transmitter low = new Transmitter(2500, 0);
        final Transmitter high = new Transmitter(25000, 0);
        final Transmitter pressure = new Transmitter(10000, 0);
        final Transmitter temperature = new Transmitter(2000, -500);
        int range = LOW;
        int held;
        int differential;
        final Formula formula = new Formula();
        final Cutoff cutoff = new Cutoff();
        long flow;
        long mass;
        long volume;
        final Batch batch = new Batch();
        final Hour hour = new Hour();
        final Day day = new Day();
        final History hourRecords = new History(HOUR_RECORDS, HOUR_VALUES);
        final History dayRecords = new History(DAY_RECORDS, DAY_VALUES);
        final History eventLog = new History(EVENTS, EVENT_VALUES);

        void copyFrom(State other) {
            time = other.time;
            contractHour = other.contractHour;
            low.copyFrom(other.low);
            high.copyFrom(other.high);
            pressure.copyFrom(other.pressure);
            temperature.copyFrom(other.temperature);
            range = other.range;
            held = other.held;
            differential = other.differential;
            formula.copyFrom(other.formula);
            cutoff.copyFrom(other.cutoff);
            flow = other.flow;
            mass = other.mass;
            volume = other.volume;
            batch.copyFrom(other.batch);
            hour.copyFrom(other.hour);
            day.copyFrom(other.day);
            hourRecords.copyFrom(other.hourRecords);
            dayRecords.copyFrom(other.dayRecords);
            eventLog.copyFrom(other.eventLog);
        }

        Transmitter transmitterAt(int number) {
            switch (number) {
                case 0:
                    return low;
                case 1:
                    return high;
                case 2:
                    return pressure;
                default:
                    return temperature;
            }
        }

        void passSecond() {
            time++;
            for (int number = 0; number < TRANSMITTERS; number++) {
                followTransmitter(number);
            }
            chooseRange();
            measureDifferential();
            long density = presentDensity();
            flow = cutoff.passed(formula.flowAt(differential, pressure.filtered, density));
            mass += flow;
            if (density > 0) {
                volume += Math.floorDiv(10000 * flow, density);
            }
            fillBatch();
            countInHour();
            if (time % SECONDS_OF_HOUR == 0) {
                endHour();
            }
        }

        private void followTransmitter(int number) {
            Transmitter followed = transmitterAt(number);
            boolean faulty = followed.isFaulty();
            if (faulty != followed.wasFaulty) {
                log(faulty ? FAULT : CLEAR, number);
            }
            followed.wasFaulty = faulty;
            if (!faulty) {
                followed.filter();
            }
        }

        private void chooseRange() {
            int chosen = chosenRange();
            if (chosen != range) {
                range = chosen;
                log(SWITCH, chosen);
            }
        }

        private int chosenRange() {
            boolean lowFaulty = low.isFaulty();
            boolean highFaulty = high.isFaulty();
            if (lowFaulty && highFaulty) {
                return range;
            }
            if (lowFaulty) {
                return HIGH;
            }
            if (highFaulty) {
                return LOW;
            }
            if (range == LOW) {
                return low.filtered >= Math.floorDiv(95 * low.span, 100) ? HIGH : LOW;
            }
            return high.filtered < Math.floorDiv(90 * low.span, 100) ? LOW : HIGH;
        }

        private void measureDifferential() {
            if (low.isFaulty() && high.isFaulty()) {
                hold();
            } else {
                held = 0;
                differential = Math.max(0, range == LOW ? low.filtered : high.filtered);
            }
        }

        private void hold() {
            held++;
            if (held == HELD_LIMIT) {
                log(HELD, 0);
            }
            if (held >= HELD_LIMIT) {
                differential = 0;
            }
        }

        private void fillBatch() {
            if (batch.open) {
                batch.fill(flow);
                if (!batch.open) {
                    log(BATCH, batch.mass - batch.preset);
                }
            }
        }

        private void countInHour() {
            hour.mass += flow;
            hour.alarms |= presentAlarms();
            hour.always.add(differential, pressure.filtered, temperature.filtered);
            if (cutoff.flowing) {
                hour.whileFlowing.add(differential, pressure.filtered, temperature.filtered);
            }
        }

        private int presentAlarms() {
            int alarms = held > 0 ? HELD_ALARM : 0;
            for (int number = 0; number < TRANSMITTERS; number++) {
                if (transmitterAt(number).isFaulty()) {
                    alarms |= 1 << number;
                }
            }
            return alarms;
        }

        private void endHour() {
            recordHour();
            day.add(hour);
            hour.clear();
            if (time / SECONDS_OF_HOUR % HOURS_OF_DAY == contractHour) {
                recordDay();
                day.clear();
            }
        }

        private void recordHour() {
            Sums sums = hour.sumsForMeans();
            hourRecords.addRow();
            hourRecords.put(0, hour.mass);
            hourRecords.put(1, hour.whileFlowing.seconds);
            hourRecords.put(2, sums.mean(sums.differential));
            hourRecords.put(3, sums.mean(sums.pressure));
            hourRecords.put(4, sums.mean(sums.temperature));
            hourRecords.put(5, hour.alarms);
            hourRecords.put(6, time);
        }

        private void recordDay() {
            dayRecords.addRow();
            dayRecords.put(0, day.mass);
            dayRecords.put(1, day.flowTime);
            dayRecords.put(2, day.hours);
            dayRecords.put(3, time);
        }

        void logSetting(int number) {
            log(CONFIGURATION, number);
        }

        private void log(int kind, long value) {
            eventLog.addRow();
            eventLog.put(0, time);
            eventLog.put(1, kind);
            eventLog.put(2, value);
        }

        long presentDensity() {
            return formula.densityAt(pressure.filtered, temperature.filtered);
        }

        long totalOf(int what) {
            switch (what) {
                case 0:
                    return mass;
                case 1:
                    return volume;
                case 2:
                    return batch.mass;
                default:
                    return hour.mass;
            }
        }

        long hashAfter(long start) {
            long hash = hashOfSettings(start);
            hash = hashed(hash, range);
            hash = hashed(hash, held);
            hash = hashed(hash, differential);
            hash = hashed(hash, presentDensity());
            hash = hashed(hash, flow);
            hash = hashed(hash, cutoff.flowing ? 1 : 0);
            for (int what = 0; what < 4; what++) {
                hash = hashed(hash, totalOf(what));
            }
            hash = hashed(hash, batch.valve);
            hash = hourRecords.hashAfter(hash);
            hash = dayRecords.hashAfter(hash);
            return eventLog.hashAfter(hash);
        }

        private long hashOfSettings(long start) {
            long hash = hashed(start, time);
            hash = hashed(hash, formula.mode);
            hash = hashed(hash, formula.constant);
            hash = hashed(hash, cutoff.off);
            hash = hashed(hash, cutoff.on);
            hash = hashed(hash, contractHour);
            for (int number = 0; number < TRANSMITTERS; number++) {
                hash = transmitterAt(number).hashAfter(hash);
            }
            return formula.hashOfTables(hash);
        }
    }

    private static final class Transmitter {
        final int offset;
        int span;
        int damping;
        int raw = 13107;
        int filtered;
        boolean wasFaulty;

        Transmitter(int span, int offset) {
            this.span = span;
            this.offset = offset;
            this.filtered = offset;
        }

        void copyFrom(Transmitter other) {
            span = other.span;
            damping = other.damping;
            raw = other.raw;
            filtered = other.filtered;
            wasFaulty = other.wasFaulty;
        }

        int reading() {
            return offset + Math.floorDiv(span * (raw - 13107), 52428);
        }

        boolean isFaulty() {
            return raw < LEAST_SOUND_RAW;
        }

        void filter() {
            filtered += Math.floorDiv(reading() - filtered, 1 << damping);
        }

        long hashAfter(long start) {
            long hash = hashed(start, span);
            hash = hashed(hash, damping);
            hash = hashed(hash, raw);
            return hashed(hash, filtered);
        }
    }

    /** The density by the mode, and the computed flow. */
    private static final class Formula {
        int mode = LIQUID;
        int constant = 1000;
        final int[] densities = {10000, 10000, 10000, 10000, 10000, 10000};
        final int[] factors = {10000, 10000, 10000, 10000, 10000};

        void copyFrom(Formula other) {
            mode = other.mode;
            constant = other.constant;
            System.arraycopy(other.densities, 0, densities, 0, DENSITIES);
            System.arraycopy(other.factors, 0, factors, 0, FACTORS);
        }

        long densityAt(int pressure, int temperature) {
            if (mode == GAS) {
                long state = (long) densities[0] * Math.max(0, pressure) * 2931;
                return Math.floorDiv(state, 101L * Math.max(1, temperature + 2731));
            }
            return interpolated(DENSITY_TEMPERATURES, densities, temperature);
        }

        long flowAt(int differential, int pressure, long density) {
            long root = squareRoot(100L * differential * density);
            long uncorrected = Math.floorDiv(constant * root, 10000L);
            if (mode == GAS) {
                uncorrected = Math.floorDiv(uncorrected * expansion(differential, pressure), 1000L);
            }
            long factor = interpolated(FACTOR_FLOWS, factors, uncorrected);
            return Math.floorDiv(uncorrected * factor, 10000L);
        }

        private static int expansion(int differential, int pressure) {
            return Math.max(700, 1000 - Math.floorDiv(300 * differential, 100 * Math.max(1, pressure)));
        }

        private static long squareRoot(long square) {
            long root = 0;
            for (long bit = ROOT_TOP_BIT; bit > 0; bit >>= 1) {
                long next = root + bit;
                if (next * next <= square) {
                    root = next;
                }
            }
            return root;
        }

        /** Below the first place the first value, from the last place on the last one, a straight line between. */
        private static long interpolated(int[] places, int[] values, long at) {
            long last = 0;
            for (int i = 0; i < places.length && i < values.length; i++) {
                if (i > 0 && at < places[i] && places[i - 1] < places[i]) {
                    long way = Math.max(0, at - places[i - 1]);
                    long rise = values[i] - values[i - 1];
                    return values[i - 1] + Math.floorDiv(rise * way, (long) (places[i] - places[i - 1]));
                }
                last = values[i];
            }
            return last;
        }

        long hashOfTables(long start) {
            long hash = start;
            for (int i = 0; i < densities.length; i++) {
                hash = hashed(hash, densities[i]);
            }
            for (int i = 0; i < factors.length; i++) {
                hash = hashed(hash, factors[i]);
            }
            return hash;
        }
    }

    private static final class Cutoff {
        int off;
        int on;
        boolean flowing = true;

        void copyFrom(Cutoff other) {
            off = other.off;
            on = other.on;
            flowing = other.flowing;
        }

        long passed(long computed) {
            flowing = flowing ? computed >= off : computed >= on;
            return flowing ? computed : 0;
        }
    }

    /** The latest batch; it keeps its mass when it is not open any more. */
    private static final class Batch {
        int opened;
        boolean open;
        int preset;
        int slow;
        long mass;
        int valve = CLOSED;

        void copyFrom(Batch other) {
            opened = other.opened;
            open = other.open;
            preset = other.preset;
            slow = other.slow;
            mass = other.mass;
            valve = other.valve;
        }

        void begin(int newPreset, int newSlow) {
            opened++;
            open = true;
            preset = newPreset;
            slow = newSlow;
            mass = 0;
            setValve();
        }

        void fill(long flow) {
            mass += flow;
            if (mass >= preset) {
                end();
            } else {
                setValve();
            }
        }

        void end() {
            open = false;
            valve = CLOSED;
        }

        private void setValve() {
            valve = preset - mass <= slow ? SLOW : OPEN;
        }
    }

    private static final class Sums {
        int seconds;
        long differential;
        long pressure;
        long temperature;

        void copyFrom(Sums other) {
            seconds = other.seconds;
            differential = other.differential;
            pressure = other.pressure;
            temperature = other.temperature;
        }

        void clear() {
            seconds = 0;
            differential = 0;
            pressure = 0;
            temperature = 0;
        }

        void add(int addedDifferential, int addedPressure, int addedTemperature) {
            seconds++;
            differential += addedDifferential;
            pressure += addedPressure;
            temperature += addedTemperature;
        }

        long mean(long sum) {
            return seconds > 0 ? Math.floorDiv(sum, (long) seconds) : 0;
        }
    }

    /** What is summed up in the present hour. */
    private static final class Hour {
        long mass;
        int alarms;
        final Sums whileFlowing = new Sums();
        final Sums always = new Sums();

        void copyFrom(Hour other) {
            mass = other.mass;
            alarms = other.alarms;
            whileFlowing.copyFrom(other.whileFlowing);
            always.copyFrom(other.always);
        }

        void clear() {
            mass = 0;
            alarms = 0;
            whileFlowing.clear();
            always.clear();
        }

        Sums sumsForMeans() {
            return whileFlowing.seconds > 0 ? whileFlowing : always;
        }
    }

    /** What is summed up since the last day ended; hour records that are dropped by then count too. */
    private static final class Day {
        long mass;
        long flowTime;
        int hours;

        void copyFrom(Day other) {
            mass = other.mass;
            flowTime = other.flowTime;
            hours = other.hours;
        }

        void clear() {
            mass = 0;
            flowTime = 0;
            hours = 0;
        }

        void add(Hour ended) {
            mass += ended.mass;
            flowTime += ended.whileFlowing.seconds;
            hours++;
        }
    }

    /** The latest rows of values; a row that is added to a full history takes the place of the oldest one. */
    private static final class History {
        final int capacity;
        final int width;
        final long[] cells;
        int oldest;
        int count;

        History(int capacity, int width) {
            this.capacity = capacity;
            this.width = width;
            this.cells = new long[capacity * width];
        }

        void copyFrom(History other) {
            System.arraycopy(other.cells, 0, cells, 0, cells.length);
            oldest = other.oldest;
            count = other.count;
        }

        void addRow() {
            if (count < capacity) {
                count++;
            } else {
                oldest = oldest + 1 < capacity ? oldest + 1 : 0;
            }
        }

        void put(int what, long value) {
            int cell = cellOf(count - 1, what);
            if (cell >= 0 && cell < cells.length) {
                cells[cell] = value;
            }
        }

        long valueAt(int index, int what) {
            int cell = cellOf(index, what);
            return cell >= 0 && cell < cells.length ? cells[cell] : 0;
        }

        private int cellOf(int index, int what) {
            int row = oldest + index;
            if (row >= capacity) {
                row -= capacity;
            }
            return row * width + what;
        }

        long hashAfter(long start) {
            long hash = hashed(start, count);
            for (int index = 0; index < count; index++) {
                for (int what = 0; what < width; what++) {
                    hash = hashed(hash, valueAt(index, what));
                }
            }
            return hash;
        }
    }
}
