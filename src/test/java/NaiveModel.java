import java.math.BigInteger;
import java.util.ArrayDeque;
import java.util.ArrayList;
import java.util.Arrays;
import java.util.Deque;
import java.util.List;

/**
 * The document written down once more, as slowly and as literally as it goes: records and events are never dropped but
 * looked at from behind, a saved state is a whole copy, and divisions are made by BigInteger.
 */
final class NaiveModel {
    static final class Memory {
        int[] span = {2500, 25000, 10000, 2000};
        int[] damping = new int[4];
        int[] raw = {13107, 13107, 13107, 13107};
        int[] filtered = {0, 0, 0, -500};
        boolean[] faultyBefore = new boolean[4];
        int[] d = {10000, 10000, 10000, 10000, 10000, 10000};
        int[] f = {10000, 10000, 10000, 10000, 10000};
        int mode;
        int k = 1000;
        int off;
        int on;
        int contractHour;
        int time;
        int range;
        int held;
        int differential;
        boolean flowing = true;
        long flow;
        long mass;
        long volume;
        int opened;
        boolean open;
        long preset;
        long slow;
        long batchMass;
        int valve;
        List<long[]> seconds = new ArrayList<>();
        int hourRecordsOfEarlierDays;
        List<long[]> hours = new ArrayList<>();
        List<long[]> days = new ArrayList<>();
        List<long[]> events = new ArrayList<>();

        Memory copy() {
            Memory c = new Memory();
            c.span = span.clone();
            c.damping = damping.clone();
            c.raw = raw.clone();
            c.filtered = filtered.clone();
            c.faultyBefore = faultyBefore.clone();
            c.d = d.clone();
            c.f = f.clone();
            c.mode = mode;
            c.k = k;
            c.off = off;
            c.on = on;
            c.contractHour = contractHour;
            c.time = time;
            c.range = range;
            c.held = held;
            c.differential = differential;
            c.flowing = flowing;
            c.flow = flow;
            c.mass = mass;
            c.volume = volume;
            c.opened = opened;
            c.open = open;
            c.preset = preset;
            c.slow = slow;
            c.batchMass = batchMass;
            c.valve = valve;
            c.seconds = new ArrayList<>(seconds);
            c.hourRecordsOfEarlierDays = hourRecordsOfEarlierDays;
            c.hours = new ArrayList<>(hours);
            c.days = new ArrayList<>(days);
            c.events = new ArrayList<>(events);
            return c;
        }
    }

    private static final int[] PLACES = {-200, 0, 200, 400, 600, 800};
    private static final int[] FLOWS = {0, 1000, 3000, 10000, 30000};

    Memory m = new Memory();
    final Deque<Memory> stack = new ArrayDeque<>();

    static long floor(BigInteger a, long b) {
        BigInteger[] parts = a.divideAndRemainder(BigInteger.valueOf(b));
        long quotient = parts[0].longValueExact();
        return parts[1].signum() < 0 ? quotient - 1 : quotient;
    }

    static BigInteger product(long... factors) {
        BigInteger all = BigInteger.ONE;
        for (long factor : factors) {
            all = all.multiply(BigInteger.valueOf(factor));
        }
        return all;
    }

    private void save() {
        stack.addLast(m.copy());
        if (stack.size() > 3) {
            stack.removeFirst();
        }
    }

    private void log(int kind, long value) {
        m.events.add(new long[] {m.time, kind, value});
    }

    private static void index(boolean exists) {
        if (!exists) {
            throw new IndexOutOfBoundsException();
        }
    }

    private static void argument(boolean fits) {
        if (!fits) {
            throw new IllegalArgumentException();
        }
    }

    private static void state(boolean fits) {
        if (!fits) {
            throw new IllegalStateException();
        }
    }

    private static boolean in(long v, long least, long greatest) {
        return least <= v && v <= greatest;
    }

    private int put(int[] row, int i, int v, int setting) {
        save();
        int before = row[i];
        row[i] = v;
        log(5, setting);
        return before;
    }

    int setSpan(int t, int v) {
        index(in(t, 0, 3));
        argument(in(v, 100, 30000));
        return put(m.span, t, v, 0);
    }

    int setDamping(int t, int v) {
        index(in(t, 0, 3));
        argument(in(v, 0, 8));
        return put(m.damping, t, v, 1);
    }

    int setMode(int v) {
        argument(v == 0 || v == 1);
        save();
        int before = m.mode;
        m.mode = v;
        log(5, 2);
        return before;
    }

    int setDensity(int i, int v) {
        index(in(i, 0, 5));
        argument(in(v, 1, 20000));
        return put(m.d, i, v, 3);
    }

    int setFactor(int i, int v) {
        index(in(i, 0, 4));
        argument(in(v, 9000, 11000));
        return put(m.f, i, v, 4);
    }

    int setMeter(int v) {
        argument(in(v, 1, 100000));
        save();
        int before = m.k;
        m.k = v;
        log(5, 5);
        return before;
    }

    int setCutoff(int off, int on) {
        argument(0 <= off && off <= on && on <= 100000);
        save();
        int before = m.off;
        m.off = off;
        m.on = on;
        log(5, 6);
        return before;
    }

    int setContractHour(int v) {
        argument(in(v, 0, 23));
        save();
        int before = m.contractHour;
        m.contractHour = v;
        log(5, 7);
        return before;
    }

    int setRaw(int t, int v) {
        index(in(t, 0, 3));
        argument(in(v, 0, 65535));
        save();
        m.raw[t] = v;
        return reading(t);
    }

    private int reading(int t) {
        return (t == 3 ? -500 : 0) + (int) floor(product(m.span[t], m.raw[t] - 13107), 52428);
    }

    private boolean faulty(int t) {
        return m.raw[t] < 12000;
    }

    long run(int seconds) {
        argument(in(seconds, 1, 20000));
        save();
        long before = m.mass;
        for (int i = 0; i < seconds; i++) {
            second();
        }
        return m.mass - before;
    }

    private void second() {
        m.time++;
        for (int t = 0; t < 4; t++) {
            if (faulty(t) && !m.faultyBefore[t]) {
                log(0, t);
            }
            if (!faulty(t) && m.faultyBefore[t]) {
                log(1, t);
            }
            m.faultyBefore[t] = faulty(t);
            if (!faulty(t)) {
                m.filtered[t] += floor(BigInteger.valueOf(reading(t) - m.filtered[t]), 1L << m.damping[t]);
            }
        }
        chooseRange();
        boolean both = faulty(0) && faulty(1);
        if (both) {
            m.held++;
            if (m.held == 11) {
                log(3, 0);
            }
            if (m.held >= 11) {
                m.differential = 0;
            }
        } else {
            m.held = 0;
            m.differential = Math.max(0, m.filtered[m.range]);
        }
        flowAndTotals();
        hourAndDay();
    }

    private void chooseRange() {
        int old = m.range;
        if (faulty(0) && !faulty(1)) {
            m.range = 1;
        } else if (faulty(1) && !faulty(0)) {
            m.range = 0;
        } else if (!faulty(0)) {
            if (old == 0 && m.filtered[0] >= floor(product(95, m.span[0]), 100)) {
                m.range = 1;
            }
            if (old == 1 && m.filtered[1] < floor(product(90, m.span[0]), 100)) {
                m.range = 0;
            }
        }
        if (m.range != old) {
            log(2, m.range);
        }
    }

    private void flowAndTotals() {
        long density = density();
        long computed = computed(m.differential, m.filtered[2], m.filtered[3]);
        if (m.flowing && computed < m.off) {
            m.flowing = false;
        } else if (!m.flowing && computed >= m.on) {
            m.flowing = true;
        }
        m.flow = m.flowing ? computed : 0;
        m.mass += m.flow;
        m.volume += density == 0 ? 0 : floor(product(10000, m.flow), density);
        if (m.open) {
            m.batchMass += m.flow;
            if (m.batchMass >= m.preset) {
                m.open = false;
                m.valve = 0;
                log(4, m.batchMass - m.preset);
            } else {
                m.valve = m.preset - m.batchMass <= m.slow ? 1 : 2;
            }
        }
    }

    private void hourAndDay() {
        long alarms = m.held > 0 ? 16 : 0;
        for (int t = 0; t < 4; t++) {
            alarms |= faulty(t) ? 1L << t : 0;
        }
        m.seconds.add(new long[] {m.flow, m.flowing ? 1 : 0, m.differential, m.filtered[2], m.filtered[3], alarms});
        if (m.time % 3600 != 0) {
            return;
        }
        long[] record = new long[7];
        for (long[] second : m.seconds) {
            record[0] += second[0];
            record[1] += second[1];
            record[5] |= second[5];
        }
        for (int v = 2; v <= 4; v++) {
            long sum = 0;
            long number = 0;
            for (long[] second : m.seconds) {
                if (record[1] == 0 || second[1] == 1) {
                    sum += second[v];
                    number++;
                }
            }
            record[v] = floor(BigInteger.valueOf(sum), number);
        }
        record[6] = m.time;
        m.hours.add(record);
        m.seconds = new ArrayList<>();
        if (m.time / 3600 % 24 == m.contractHour) {
            long[] day = new long[4];
            for (long[] hour : m.hours.subList(m.hourRecordsOfEarlierDays, m.hours.size())) {
                day[0] += hour[0];
                day[1] += hour[1];
                day[2]++;
            }
            day[3] = m.time;
            m.days.add(day);
            m.hourRecordsOfEarlierDays = m.hours.size();
        }
    }

    private long density(int p, int t) {
        if (m.mode == 1) {
            return floor(product(m.d[0], Math.max(0, p), 2931), 101L * Math.max(1, t + 2731));
        }
        if (t <= -200) {
            return m.d[0];
        }
        if (t >= 800) {
            return m.d[5];
        }
        int i = Arrays.binarySearch(PLACES, t);
        if (i >= 0) {
            return m.d[i];
        }
        i = -i - 2;
        return m.d[i] + floor(product(m.d[i + 1] - m.d[i], t - PLACES[i]), PLACES[i + 1] - PLACES[i]);
    }

    long computed(int differential, int p, int t) {
        long s = product(100, differential, density(p, t)).sqrt().longValueExact();
        long q1 = floor(product(m.k, s), 10000);
        if (m.mode == 1) {
            long y = 1000 - floor(product(300, differential), 100L * Math.max(1, p));
            q1 = floor(product(q1, Math.max(700, y)), 1000);
        }
        long factor = m.f[4];
        if (q1 < 30000) {
            int i = 0;
            while (q1 >= FLOWS[i + 1]) {
                i++;
            }
            factor = m.f[i] + floor(product(m.f[i + 1] - m.f[i], q1 - FLOWS[i]), FLOWS[i + 1] - FLOWS[i]);
        }
        return floor(product(q1, factor), 10000);
    }

    int openBatch(int preset, int slow) {
        argument(in(preset, 1, 1000000000));
        argument(in(slow, 0, 1000000000));
        state(!m.open);
        save();
        m.open = true;
        m.preset = preset;
        m.slow = slow;
        m.batchMass = 0;
        m.valve = preset <= slow ? 1 : 2;
        return ++m.opened;
    }

    long closeBatch() {
        state(m.open);
        save();
        m.open = false;
        m.valve = 0;
        return m.batchMass;
    }

    int transmitter(int t, int what) {
        index(in(t, 0, 3));
        argument(in(what, 0, 3));
        return new int[] {reading(t), m.filtered[t], faulty(t) ? 1 : 0, m.raw[t]}[what];
    }

    int range() {
        return m.range;
    }

    int differential() {
        return m.differential;
    }

    long density() {
        return density(m.filtered[2], m.filtered[3]);
    }

    long flow() {
        return m.flow;
    }

    boolean isFlowing() {
        return m.flowing;
    }

    long total(int what) {
        argument(in(what, 0, 3));
        long hour = 0;
        for (long[] second : m.seconds) {
            hour += second[0];
        }
        return new long[] {m.mass, m.volume, m.batchMass, hour}[what];
    }

    int valve() {
        return m.valve;
    }

    long flowFor(int differential, int pressure, int temperature) {
        argument(in(differential, 0, 30000));
        argument(in(pressure, 0, 30000));
        argument(in(temperature, -500, 3000));
        return computed(differential, pressure, temperature);
    }

    int differentialFor(long flow) {
        argument(in(flow, 0, 1000000000));
        for (int differential = 0; differential <= 30000; differential++) {
            if (computed(differential, m.filtered[2], m.filtered[3]) >= flow) {
                return differential;
            }
        }
        return -1;
    }

    private static long value(List<long[]> all, int kept, int index, int what, int greatest) {
        int number = Math.min(kept, all.size());
        index(in(index, 0, number - 1));
        argument(in(what, 0, greatest));
        return all.get(all.size() - number + index)[what];
    }

    int hours() {
        return Math.min(24, m.hours.size());
    }

    long hour(int index, int what) {
        return value(m.hours, 24, index, what, 6);
    }

    int days() {
        return Math.min(5, m.days.size());
    }

    long day(int index, int what) {
        return value(m.days, 5, index, what, 3);
    }

    int events() {
        return Math.min(30, m.events.size());
    }

    long event(int index, int what) {
        return value(m.events, 30, index, what, 2);
    }

    int undo() {
        state(!stack.isEmpty());
        m = stack.removeLast();
        return stack.size();
    }

    long digest() {
        List<Long> values = new ArrayList<>(List.of((long) stack.size(), (long) m.time, (long) m.mode, (long) m.k,
                (long) m.off, (long) m.on, (long) m.contractHour));
        for (int t = 0; t < 4; t++) {
            values.addAll(List.of((long) m.span[t], (long) m.damping[t], (long) m.raw[t], (long) m.filtered[t]));
        }
        for (int v : m.d) {
            values.add((long) v);
        }
        for (int v : m.f) {
            values.add((long) v);
        }
        values.addAll(List.of((long) m.range, (long) m.held, (long) m.differential, density(), m.flow,
                m.flowing ? 1L : 0L, total(0), total(1), total(2), total(3)));
        values.add((long) m.valve);
        addAll(values, m.hours, hours());
        addAll(values, m.days, days());
        addAll(values, m.events, events());
        BigInteger h = BigInteger.valueOf(19735);
        for (long v : values) {
            h = h.multiply(BigInteger.valueOf(31)).add(BigInteger.valueOf(v));
        }
        return h.longValue();
    }

    private static void addAll(List<Long> values, List<long[]> all, int number) {
        values.add((long) number);
        for (long[] row : all.subList(all.size() - number, all.size())) {
            for (long v : row) {
                values.add(v);
            }
        }
    }
}
