import java.util.ArrayDeque;
import java.util.ArrayList;
import java.util.Arrays;
import java.util.Deque;
import java.util.List;

/**
 * A second writing of the document, slow and plain: it keeps the whole past of the legs and a new copy
 * for every saved state, so that it shares no trick with the class that it is compared with.
 */
final class Model {
    private static final List<Integer> CODES = Arrays.asList(1, 3, 2, 6, 4, 5);
    private static final String[] TABLE = {"AB", "AC", "BC", "BA", "CA", "CB"};

    private static final class Memory {
        int tick;
        int filter = 3;
        int period = 10;
        int duty = 50;
        int dead = 2;
        int stall = 500;
        int mode;
        int raw = 1;
        int filtered = 1;
        int candidate = 1;
        int filterCount;
        int pulse;
        List<int[]> past = new ArrayList<>(List.of(new int[3]));
        List<int[]> edges = new ArrayList<>();
        List<Integer> intervals = new ArrayList<>();
        int[] latestEdge;
        int illegals;
        int skips;
        int faults;
        int wrongEdges;
        int illegalTime;
        int idleTime;
        int[] fault;
        List<int[]> scheduled = new ArrayList<>();

        Memory copy() {
            Memory m = new Memory();
            m.tick = tick;
            m.filter = filter;
            m.period = period;
            m.duty = duty;
            m.dead = dead;
            m.stall = stall;
            m.mode = mode;
            m.raw = raw;
            m.filtered = filtered;
            m.candidate = candidate;
            m.filterCount = filterCount;
            m.pulse = pulse;
            m.past = new ArrayList<>(past);
            m.edges = new ArrayList<>(edges);
            m.intervals = new ArrayList<>(intervals);
            m.latestEdge = latestEdge;
            m.illegals = illegals;
            m.skips = skips;
            m.faults = faults;
            m.wrongEdges = wrongEdges;
            m.illegalTime = illegalTime;
            m.idleTime = idleTime;
            m.fault = fault;
            m.scheduled = new ArrayList<>(scheduled);
            return m;
        }
    }

    private Memory m = new Memory();
    private final Deque<Memory> saved = new ArrayDeque<>();

    private void save() {
        saved.addLast(m.copy());
        if (saved.size() > 4) {
            saved.removeFirst();
        }
    }

    private static void within(int v, int a, int b) {
        if (v < a || v > b) {
            throw new IllegalArgumentException();
        }
    }

    int setFilter(int ticks) {
        within(ticks, 1, 50);
        save();
        int old = m.filter;
        m.filter = ticks;
        return old;
    }

    int setPulse(int period, int duty) {
        within(period, 4, 100);
        within(duty, 0, 100);
        save();
        int old = m.duty;
        m.period = period;
        m.duty = duty;
        return old;
    }

    int setDeadTime(int ticks) {
        within(ticks, 0, 20);
        save();
        int old = m.dead;
        m.dead = ticks;
        return old;
    }

    int setStall(int ticks) {
        within(ticks, 10, 100000);
        save();
        int old = m.stall;
        m.stall = ticks;
        return old;
    }

    int setMode(int mode) {
        within(mode, 0, 4);
        if (m.fault != null) {
            throw new IllegalStateException();
        }
        save();
        int old = m.mode;
        if (old != mode) {
            m.wrongEdges = m.illegalTime = m.idleTime = 0;
        }
        m.mode = mode;
        return old;
    }

    int clearFault() {
        if (m.fault == null) {
            throw new IllegalStateException();
        }
        save();
        int number = m.fault[0];
        m.fault = null;
        return number;
    }

    int schedule(int delay, int code) {
        within(delay, 1, 100000);
        within(code, 0, 7);
        if (m.scheduled.size() == 40) {
            throw new IllegalStateException();
        }
        save();
        m.scheduled.add(new int[] {m.tick + delay, code});
        return m.scheduled.size();
    }

    int spin(int direction, int interval, int steps) {
        if (Math.abs((long) direction) != 1) {
            throw new IllegalArgumentException();
        }
        within(interval, 1, 1000);
        within(steps, 1, 40);
        int[] from = {m.tick, m.raw};
        boolean any = false;
        for (int[] s : m.scheduled) {
            if (!any || s[0] >= from[0]) {
                from = s;
            }
            any = true;
        }
        if (m.scheduled.size() + steps > 40 || !CODES.contains(from[1])) {
            throw new IllegalStateException();
        }
        save();
        int start = CODES.indexOf(from[1]);
        for (int i = 1; i <= steps; i++) {
            int code = CODES.get(Math.floorMod(start + i * direction, 6));
            m.scheduled.add(new int[] {from[0] + i * interval, code});
        }
        return m.scheduled.size();
    }

    int run(int ticks) {
        within(ticks, 0, 5000);
        save();
        for (int i = 0; i < ticks; i++) {
            tick();
        }
        return m.tick;
    }

    private void tick() {
        m.tick++;
        List<int[]> still = new ArrayList<>();
        for (int[] s : m.scheduled) {
            if (s[0] == m.tick) {
                m.raw = s[1];
            } else {
                still.add(s);
            }
        }
        m.scheduled = still;
        int r = CODES.indexOf(m.filtered);
        boolean accepted = false;
        if (m.raw == m.filtered) {
            m.filterCount = 0;
        } else {
            m.filterCount = m.raw == m.candidate && m.filterCount > 0 ? m.filterCount + 1 : 1;
            m.candidate = m.raw;
            if (m.filterCount >= m.filter) {
                accepted = true;
                m.filtered = m.raw;
                m.filterCount = 0;
            }
        }
        boolean edge = accepted && accept(r, CODES.indexOf(m.filtered));
        watch(edge);
        m.pulse = m.pulse + 1 >= m.period ? 0 : m.pulse + 1;
        m.past.add(legs());
    }

    private boolean accept(int r, int s) {
        if (s < 0) {
            m.illegals++;
        }
        int d = s < 0 || r < 0 ? 0 : Math.floorMod(s - r, 6);
        if (d == 1 || d == 5) {
            edge(d == 1 ? 1 : -1, s);
            return true;
        }
        if (s < 0 || d != 0) {
            m.intervals.clear();
            m.latestEdge = null;
        }
        if (d != 0) {
            m.skips++;
        }
        return false;
    }

    private void edge(int direction, int s) {
        int[] before = m.latestEdge;
        if (before != null && before[1] == direction) {
            m.intervals.add(m.tick - before[0]);
            if (m.intervals.size() > 6) {
                m.intervals.remove(0);
            }
        } else {
            m.intervals.clear();
        }
        m.latestEdge = new int[] {m.tick, direction};
        m.edges.add(m.latestEdge);
        if (m.mode == 1 || m.mode == 2) {
            boolean right = (m.mode == 1) == (direction == 1);
            m.wrongEdges = right ? 0 : m.wrongEdges + 1;
            if (m.wrongEdges == 3) {
                fail(2, s);
            }
        }
    }

    private void watch(boolean edge) {
        if (m.mode != 1 && m.mode != 2) {
            m.illegalTime = 0;
            m.idleTime = 0;
            return;
        }
        if (m.filtered == 0 || m.filtered == 7) {
            m.illegalTime++;
            if (m.illegalTime == 20) {
                fail(1, m.filtered);
            }
            return;
        }
        m.illegalTime = 0;
        m.idleTime++;
        if (m.duty == 0 || edge) {
            m.idleTime = 0;
        }
        if (m.idleTime >= m.stall) {
            fail(3, position());
        }
    }

    private void fail(int number, int detail) {
        m.mode = 0;
        m.wrongEdges = m.illegalTime = m.idleTime = 0;
        m.fault = new int[] {number, m.tick, detail};
        m.faults++;
    }

    private int[] legs() {
        int[] now = new int[3];
        int sector = CODES.indexOf(m.filtered);
        boolean on = m.pulse < m.period * m.duty / 100;
        if (m.mode == 3) {
            Arrays.fill(now, -1);
        } else if (m.mode != 0 && sector >= 0) {
            int first = TABLE[sector].charAt(0) - 'A';
            int second = TABLE[sector].charAt(1) - 'A';
            int high = m.mode == 2 ? second : first;
            int low = m.mode == 2 ? first : second;
            now[high] = !on ? 0 : m.mode == 4 ? -1 : 1;
            now[low] = m.mode == 4 && !on ? 0 : -1;
        }
        for (int i = 0; i < 3; i++) {
            for (int back = 1; back <= m.dead && m.past.size() - back >= 0; back++) {
                if (now[i] != 0 && m.past.get(m.past.size() - back)[i] == -now[i]) {
                    now[i] = 0;
                }
            }
        }
        return now;
    }

    int sensors(int what) {
        within(what, 0, 3);
        return new int[] {m.raw, m.filtered, CODES.indexOf(m.filtered), m.filterCount}[what];
    }

    int mode() {
        return m.mode;
    }

    int leg(int leg) {
        if (leg < 0 || leg > 2) {
            throw new IndexOutOfBoundsException();
        }
        return m.past.get(m.past.size() - 1)[leg];
    }

    int onTicks(int leg, boolean high) {
        if (leg < 0 || leg > 2) {
            throw new IndexOutOfBoundsException();
        }
        return (int) m.past.stream().filter(legs -> legs[leg] == (high ? 1 : -1)).count();
    }

    int position() {
        return m.edges.stream().mapToInt(e -> e[1]).sum();
    }

    int counts(int what) {
        within(what, 0, 3);
        return new int[] {m.illegals, m.skips, m.edges.size(), m.faults}[what];
    }

    int interval(int index) {
        if (index < 0 || index >= m.intervals.size()) {
            throw new IndexOutOfBoundsException();
        }
        return m.intervals.get(index);
    }

    double speed() {
        if (m.intervals.isEmpty()) {
            return 0.0;
        }
        double n = m.intervals.size();
        double s = m.intervals.stream().mapToInt(i -> i).sum();
        return m.latestEdge[1] * (1000000.0 * n) / (6.0 * s);
    }

    int fault(int what) {
        within(what, 0, 2);
        return m.fault == null ? 0 : m.fault[what];
    }

    int waiting() {
        return m.scheduled.size();
    }

    int undo() {
        if (saved.isEmpty()) {
            throw new IllegalStateException();
        }
        m = saved.removeLast();
        return saved.size();
    }

    long digest() {
        List<Integer> v = new ArrayList<>(Arrays.asList(m.tick, m.filter, m.period, m.duty, m.dead));
        v.addAll(Arrays.asList(m.stall, m.mode, sensors(0), sensors(1), sensors(2), sensors(3), m.pulse));
        v.addAll(Arrays.asList(leg(0), leg(1), leg(2)));
        for (int i = 0; i < 3; i++) {
            v.addAll(Arrays.asList(onTicks(i, true), onTicks(i, false)));
        }
        v.addAll(Arrays.asList(position(), counts(0), counts(1), counts(2), counts(3)));
        v.add(m.intervals.size());
        v.addAll(m.intervals);
        v.addAll(Arrays.asList(m.wrongEdges, m.illegalTime, m.idleTime, fault(0), fault(1), fault(2)));
        v.add(m.scheduled.size());
        List<int[]> inOrder = new ArrayList<>(m.scheduled);
        inOrder.sort((a, b) -> Integer.compare(a[0], b[0]));
        for (int[] s : inOrder) {
            v.addAll(Arrays.asList(s[0], s[1]));
        }
        v.add(saved.size());
        long h = 2843;
        for (int value : v) {
            h = 31 * h + value;
        }
        return h;
    }
}
