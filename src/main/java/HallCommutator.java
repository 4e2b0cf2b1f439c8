/**
 * A simulator of the commutation of a brushless motor from three hall sensors.
 *
 * <p>Everything that undo() brings back lives in a State. The present one and the four that can be
 * saved are made once, in the constructor, and copied into one another, so that no call makes an
 * object but for an exception.
 */
public final class HallCommutator {
    /** There is no such thing. */
    public static final int NONE = -1;

    private static final int COAST = 0;
    private static final int FORWARD = 1;
    private static final int REVERSE = 2;
    private static final int DYNAMIC_BRAKING = 3;
    private static final int REGENERATIVE_BRAKING = 4;

    private static final int FAULT_SENSORS = 1;
    private static final int FAULT_REVERSAL = 2;
    private static final int FAULT_STALL = 3;

    private static final int HIGH = 1;
    private static final int LOW = -1;
    private static final int OFF = 0;

    private static final int SECTORS = 6;
    private static final int LEGS = 3;
    private static final int MAX_CODE = 7;
    private static final int MAX_WAITING = 40;
    private static final int MAX_INTERVALS = 6;
    private static final int MAX_SAVED = 4;
    private static final int WRONG_EDGES_OF_FAULT = 3;
    private static final int ILLEGAL_TIME_OF_FAULT = 20;

    /** A tick further before tick 1 than any dead time reaches. */
    private static final int LONG_AGO = -1000;

    private static final long DIGEST_START = 2843L;

    private static final int[] SECTOR_OF_CODE = {-1, 0, 2, 1, 4, 5, 3, -1};
    private static final int[] CODE_OF_SECTOR = {1, 3, 2, 6, 4, 5};
    private static final int[] HIGH_LEG_OF_SECTOR = {0, 0, 1, 1, 2, 2};
    private static final int[] LOW_LEG_OF_SECTOR = {1, 2, 2, 0, 0, 1};

    private final State now;
    private final History history;

    /** Creates a simulator at tick 0. */
    public HallCommutator() {
        now = new State();
        history = new History();
    }

    // ---- settings

    /** Sets the filter time, 1 to 50, and returns the previous one. Undoable. */
    public int setFilter(int ticks) throws IllegalArgumentException {
        requireRange(ticks, 1, 50);
        history.save(now);
        int previous = now.settings.filterTime;
        now.settings.filterTime = ticks;
        return previous;
    }

    /** Sets the period, 4 to 100, and the duty, 0 to 100, and returns the previous duty. Undoable. */
    public int setPulse(int period, int duty) throws IllegalArgumentException {
        requireRange(period, 4, 100);
        requireRange(duty, 0, 100);
        history.save(now);
        int previous = now.settings.duty;
        now.settings.period = period;
        now.settings.duty = duty;
        return previous;
    }

    /** Sets the dead time, 0 to 20, and returns the previous one. Undoable. */
    public int setDeadTime(int ticks) throws IllegalArgumentException {
        requireRange(ticks, 0, 20);
        history.save(now);
        int previous = now.settings.deadTime;
        now.settings.deadTime = ticks;
        return previous;
    }

    /** Sets the stall time, 10 to 100000, and returns the previous one. Undoable. */
    public int setStall(int ticks) throws IllegalArgumentException {
        requireRange(ticks, 10, 100000);
        history.save(now);
        int previous = now.settings.stallTime;
        now.settings.stallTime = ticks;
        return previous;
    }

    /** Sets the mode, 0 to 4, and returns the previous one; refused while a fault is kept. Undoable. */
    public int setMode(int mode) throws IllegalArgumentException, IllegalStateException {
        requireRange(mode, COAST, REGENERATIVE_BRAKING);
        if (now.guard.faultNumber != 0) {
            throw new IllegalStateException("a fault is kept");
        }
        history.save(now);
        int previous = now.guard.mode;
        if (mode != previous) {
            now.guard.enterMode(mode);
        }
        return previous;
    }

    /** Removes the fault and returns its number. Undoable. */
    public int clearFault() throws IllegalStateException {
        if (now.guard.faultNumber == 0) {
            throw new IllegalStateException("no fault is kept");
        }
        history.save(now);
        int number = now.guard.faultNumber;
        now.guard.forgetFault();
        return number;
    }

    // ---- sensors and time

    /**
     * Schedules a code, 0 to 7, after a delay of 1 to 100000 ticks, and returns the number of codes
     * that are waiting. Undoable.
     */
    public int schedule(int delay, int code) throws IllegalArgumentException, IllegalStateException {
        requireRange(delay, 1, 100000);
        requireRange(code, 0, MAX_CODE);
        requireRoom(1);
        history.save(now);
        now.queue.insert(now.tick + delay, code);
        return now.queue.size;
    }

    /**
     * Schedules the codes of a motor that turns in a direction, 1 or -1, a code after each interval
     * of 1 to 1000 ticks, 1 to 40 codes in all, and returns the number of codes that are waiting.
     * Undoable.
     */
    public int spin(int direction, int interval, int steps)
            throws IllegalArgumentException, IllegalStateException {
        if (direction != 1 && direction != -1) {
            throw new IllegalArgumentException("no such direction");
        }
        requireRange(interval, 1, 1000);
        requireRange(steps, 1, MAX_WAITING);
        requireRoom(steps);
        int sector = sectorOf(now.queue.lastCode(now.sensors.raw));
        if (sector == NONE) {
            throw new IllegalStateException("the code to start from is illegal");
        }
        history.save(now);
        int tick = now.queue.lastTick(now.tick);
        for (int step = 0; step < steps; step++) {
            sector = (sector + direction + SECTORS) % SECTORS;
            tick += interval;
            now.queue.insert(tick, codeOf(sector));
        }
        return now.queue.size;
    }

    /** Lets 0 to 5000 ticks pass and returns the present tick afterwards. Undoable. */
    public int run(int ticks) throws IllegalArgumentException {
        requireRange(ticks, 0, 5000);
        history.save(now);
        for (int passed = 0; passed < ticks; passed++) {
            now.passTick();
        }
        return now.tick;
    }

    // ---- values

    /** Returns 0 the raw code, 1 the filtered code, 2 the sector or 3 the filter count. */
    public int sensors(int what) throws IllegalArgumentException {
        requireRange(what, 0, 3);
        switch (what) {
            case 0:
                return now.sensors.raw;
            case 1:
                return now.sensors.filtered;
            case 2:
                return now.sensors.sector;
            default:
                return now.sensors.filterCount;
        }
    }

    /** Returns the mode, 0 to 4. */
    public int mode() {
        return now.guard.mode;
    }

    /** Returns 1 if a leg is high, -1 if it is low, 0 if it is off. */
    public int leg(int leg) throws IndexOutOfBoundsException {
        requireLeg(leg);
        return now.drive.legs[leg];
    }

    /** Returns at how many ticks the high or the low switch of a leg was on. */
    public int onTicks(int leg, boolean high) throws IndexOutOfBoundsException {
        requireLeg(leg);
        return high ? now.drive.highTicks[leg] : now.drive.lowTicks[leg];
    }

    /** Returns the number of forward edges minus the number of backward edges. */
    public int position() {
        return now.motion.position;
    }

    /** Returns the number of 0 illegal codes, 1 skips, 2 edges or 3 faults since the beginning. */
    public int counts(int what) throws IllegalArgumentException {
        requireRange(what, 0, 3);
        switch (what) {
            case 0:
                return now.motion.illegalCodes;
            case 1:
                return now.motion.skips;
            case 2:
                return now.motion.edges;
            default:
                return now.guard.faults;
        }
    }

    /** Returns an interval of the list of intervals, 0 for the oldest one. */
    public int interval(int index) throws IndexOutOfBoundsException {
        if (index < 0 || index >= now.motion.intervalCount) {
            throw new IndexOutOfBoundsException("no such interval");
        }
        return now.motion.intervals[index];
    }

    /** Returns the estimated speed in electrical turns per 1000000 ticks; 0.0 without intervals. */
    public double speed() {
        return now.motion.estimateSpeed();
    }

    /** Returns 0 the number, 1 the tick or 2 the detail of the fault; 0 if none is kept. */
    public int fault(int what) throws IllegalArgumentException {
        requireRange(what, 0, 2);
        switch (what) {
            case 0:
                return now.guard.faultNumber;
            case 1:
                return now.guard.faultTick;
            default:
                return now.guard.faultDetail;
        }
    }

    /** Returns the number of scheduled codes that are waiting. */
    public int waiting() {
        return now.queue.size;
    }

    // ---- state

    /** Restores the state that was saved last and returns the number of saved states that remain. */
    public int undo() throws IllegalStateException {
        if (history.count == 0) {
            throw new IllegalStateException("there is no saved state");
        }
        history.restore(now);
        return history.count;
    }

    /** Returns a hash of the state. */
    public long digest() {
        long h = mix(DIGEST_START, now.tick);
        h = now.settings.mixInto(h);
        h = mix(h, now.guard.mode);
        h = now.sensors.mixInto(h);
        h = now.drive.mixInto(h);
        h = now.motion.mixCountsInto(h);
        h = mix(h, now.guard.faults);
        h = now.motion.mixIntervalsInto(h);
        h = now.guard.mixTimesInto(h);
        h = now.guard.mixFaultInto(h);
        h = now.queue.mixInto(h);
        return mix(h, history.count);
    }

    private void requireRoom(int codes) {
        if (codes > MAX_WAITING - now.queue.size) {
            throw new IllegalStateException("too many codes would be waiting");
        }
    }

    private static void requireRange(int value, int least, int most) {
        if (value < least || value > most) {
            throw new IllegalArgumentException("an argument is out of range");
        }
    }

    private static void requireLeg(int leg) {
        if (leg < 0 || leg >= LEGS) {
            throw new IndexOutOfBoundsException("there is no such leg");
        }
    }

    private static int sectorOf(int code) {
        return entry(SECTOR_OF_CODE, code);
    }

    private static int codeOf(int sector) {
        return entry(CODE_OF_SECTOR, sector);
    }

    /** NONE behind the ends of a table lets callers look up the sector NONE without a case of its own. */
    private static int entry(int[] table, int index) {
        return index >= 0 && index < table.length ? table[index] : NONE;
    }

    private static long mix(long h, int value) {
        return 31L * h + value;
    }

    /** What the setters set, but for the mode. */
    private static final class Settings {
        int filterTime = 3;
        int period = 10;
        int duty = 50;
        int deadTime = 2;
        int stallTime = 500;

        void copyFrom(Settings other) {
            filterTime = other.filterTime;
            period = other.period;
            duty = other.duty;
            deadTime = other.deadTime;
            stallTime = other.stallTime;
        }

        long mixInto(long before) {
            long h = mix(before, filterTime);
            h = mix(h, period);
            h = mix(h, duty);
            h = mix(h, deadTime);
            return mix(h, stallTime);
        }
    }

    /** The scheduled codes, in the order of their ticks and, for equal ticks, of scheduling. */
    private static final class Queue {
        final int[] ticks = new int[MAX_WAITING];
        final int[] codes = new int[MAX_WAITING];
        int size = 0;

        void copyFrom(Queue other) {
            System.arraycopy(other.ticks, 0, ticks, 0, MAX_WAITING);
            System.arraycopy(other.codes, 0, codes, 0, MAX_WAITING);
            size = other.size;
        }

        void insert(int tick, int code) {
            if (size < 0 || size >= MAX_WAITING) {
                return;
            }
            int place = size;
            while (place > 0 && ticks[place - 1] > tick) {
                ticks[place] = ticks[place - 1];
                codes[place] = codes[place - 1];
                place--;
            }
            ticks[place] = tick;
            codes[place] = code;
            size++;
        }

        int lastCode(int otherwise) {
            return size > 0 ? codes[size - 1] : otherwise;
        }

        int lastTick(int otherwise) {
            return size > 0 ? ticks[size - 1] : otherwise;
        }

        /** Removes the codes that are due and returns the last of them. */
        int takeDue(int tick, int otherwise) {
            int due = 0;
            while (due < size && ticks[due] <= tick) {
                due++;
            }
            if (due == 0) {
                return otherwise;
            }
            int code = codes[due - 1];
            for (int i = due; i < size; i++) {
                ticks[i - due] = ticks[i];
                codes[i - due] = codes[i];
            }
            size -= due;
            return code;
        }

        long mixInto(long before) {
            long h = mix(before, size);
            for (int i = 0; i < size; i++) {
                h = mix(h, ticks[i]);
                h = mix(h, codes[i]);
            }
            return h;
        }
    }

    /** The sensor codes and the glitch filter. */
    private static final class Sensors {
        int raw = 1;
        int filtered = 1;
        int sector = 0;
        int candidate = 1;
        int filterCount = 0;

        void copyFrom(Sensors other) {
            raw = other.raw;
            filtered = other.filtered;
            sector = other.sector;
            candidate = other.candidate;
            filterCount = other.filterCount;
        }

        /** Returns whether the raw code is accepted at this tick. */
        boolean filterRaw(int filterTime) {
            if (raw == filtered) {
                filterCount = 0;
                return false;
            }
            if (raw == candidate && filterCount > 0) {
                filterCount++;
            } else {
                candidate = raw;
                filterCount = 1;
            }
            if (filterCount < filterTime) {
                return false;
            }
            filtered = raw;
            filterCount = 0;
            return true;
        }

        long mixInto(long before) {
            long h = mix(before, raw);
            h = mix(h, filtered);
            h = mix(h, sector);
            return mix(h, filterCount);
        }
    }

    /** What the accepted codes tell of the motor's turning. */
    private static final class Motion {
        int position = 0;
        int illegalCodes = 0;
        int skips = 0;
        int edges = 0;
        final int[] intervals = new int[MAX_INTERVALS];
        int intervalCount = 0;
        int edgeTick = 0;
        /** 0 while there is no latest edge. */
        int edgeDirection = 0;

        void copyFrom(Motion other) {
            position = other.position;
            illegalCodes = other.illegalCodes;
            skips = other.skips;
            edges = other.edges;
            System.arraycopy(other.intervals, 0, intervals, 0, MAX_INTERVALS);
            intervalCount = other.intervalCount;
            edgeTick = other.edgeTick;
            edgeDirection = other.edgeDirection;
        }

        void addIllegalCode() {
            illegalCodes++;
            forgetEdge();
        }

        void addSkip() {
            skips++;
            forgetEdge();
        }

        void addEdge(int direction, int tick) {
            edges++;
            position += direction;
            if (direction == edgeDirection) {
                appendInterval(tick - edgeTick);
            } else {
                intervalCount = 0;
            }
            edgeDirection = direction;
            edgeTick = tick;
        }

        void forgetEdge() {
            intervalCount = 0;
            edgeDirection = 0;
        }

        void appendInterval(int ticks) {
            if (intervalCount >= MAX_INTERVALS) {
                for (int i = 1; i < MAX_INTERVALS; i++) {
                    intervals[i - 1] = intervals[i];
                }
                intervalCount = MAX_INTERVALS - 1;
            }
            intervals[intervalCount] = ticks;
            intervalCount++;
        }

        double estimateSpeed() {
            long sum = 0L;
            for (int i = 0; i < intervalCount; i++) {
                sum += intervals[i];
            }
            if (sum <= 0L) {
                return 0.0;
            }
            return edgeDirection * (1000000.0 * intervalCount) / (6.0 * sum);
        }

        long mixCountsInto(long before) {
            long h = mix(before, position);
            h = mix(h, illegalCodes);
            h = mix(h, skips);
            return mix(h, edges);
        }

        long mixIntervalsInto(long before) {
            long h = mix(before, intervalCount);
            for (int i = 0; i < intervalCount; i++) {
                h = mix(h, intervals[i]);
            }
            return h;
        }
    }

    /** The mode, and what watches over it: a fault ends the mode and bars the next one. */
    private static final class Guard {
        int mode = COAST;
        int wrongEdges = 0;
        int illegalTime = 0;
        int idleTime = 0;
        int faults = 0;
        int faultNumber = 0;
        int faultTick = 0;
        int faultDetail = 0;

        void copyFrom(Guard other) {
            mode = other.mode;
            wrongEdges = other.wrongEdges;
            illegalTime = other.illegalTime;
            idleTime = other.idleTime;
            faults = other.faults;
            faultNumber = other.faultNumber;
            faultTick = other.faultTick;
            faultDetail = other.faultDetail;
        }

        boolean isDriving() {
            return mode == FORWARD || mode == REVERSE;
        }

        void enterMode(int next) {
            mode = next;
            wrongEdges = 0;
            illegalTime = 0;
            idleTime = 0;
        }

        void raiseFault(int number, int tick, int detail) {
            enterMode(COAST);
            faults++;
            faultNumber = number;
            faultTick = tick;
            faultDetail = detail;
        }

        void forgetFault() {
            faultNumber = 0;
            faultTick = 0;
            faultDetail = 0;
        }

        void judgeEdge(int direction, int tick, int sector) {
            if (!isDriving()) {
                return;
            }
            int due = mode == FORWARD ? 1 : -1;
            wrongEdges = direction == due ? 0 : wrongEdges + 1;
            if (wrongEdges >= WRONG_EDGES_OF_FAULT) {
                raiseFault(FAULT_REVERSAL, tick, sector);
            }
        }

        long mixTimesInto(long before) {
            long h = mix(before, wrongEdges);
            h = mix(h, illegalTime);
            return mix(h, idleTime);
        }

        long mixFaultInto(long before) {
            long h = mix(before, faultNumber);
            h = mix(h, faultTick);
            return mix(h, faultDetail);
        }
    }

    /** The pulse and the legs. */
    private static final class Drive {
        int pulseCounter = 0;
        final int[] legs = new int[LEGS];
        final int[] highTicks = new int[LEGS];
        final int[] lowTicks = new int[LEGS];
        /** The latest tick at which each leg was high or low: all that the dead time asks of the past. */
        final int[] lastHigh = {LONG_AGO, LONG_AGO, LONG_AGO};
        final int[] lastLow = {LONG_AGO, LONG_AGO, LONG_AGO};

        void copyFrom(Drive other) {
            pulseCounter = other.pulseCounter;
            System.arraycopy(other.legs, 0, legs, 0, LEGS);
            System.arraycopy(other.highTicks, 0, highTicks, 0, LEGS);
            System.arraycopy(other.lowTicks, 0, lowTicks, 0, LEGS);
            System.arraycopy(other.lastHigh, 0, lastHigh, 0, LEGS);
            System.arraycopy(other.lastLow, 0, lastLow, 0, LEGS);
        }

        void advancePulse(int period) {
            pulseCounter++;
            if (pulseCounter >= period) {
                pulseCounter = 0;
            }
        }

        boolean isPulseOn(Settings settings) {
            return pulseCounter < settings.period * settings.duty / 100;
        }

        void setLegs(int mode, int sector, Settings settings, int tick) {
            boolean pulse = isPulseOn(settings);
            for (int leg = 0; leg < LEGS; leg++) {
                int wanted = wantedLeg(leg, mode, sector, pulse);
                switchLeg(leg, afterDeadTime(leg, wanted, tick, settings.deadTime), tick);
            }
        }

        static int wantedLeg(int leg, int mode, int sector, boolean pulse) {
            int high = entry(HIGH_LEG_OF_SECTOR, sector);
            int low = entry(LOW_LEG_OF_SECTOR, sector);
            switch (mode) {
                case FORWARD:
                    return drivenLeg(leg, high, low, pulse);
                case REVERSE:
                    return drivenLeg(leg, low, high, pulse);
                case DYNAMIC_BRAKING:
                    return LOW;
                case REGENERATIVE_BRAKING:
                    return pulse && (leg == high || leg == low) ? LOW : OFF;
                default:
                    return OFF;
            }
        }

        static int drivenLeg(int leg, int high, int low, boolean pulse) {
            if (leg == low) {
                return LOW;
            }
            return leg == high && pulse ? HIGH : OFF;
        }

        int afterDeadTime(int leg, int wanted, int tick, int deadTime) {
            if (wanted == HIGH && tick - lastLow[leg] <= deadTime) {
                return OFF;
            }
            if (wanted == LOW && tick - lastHigh[leg] <= deadTime) {
                return OFF;
            }
            return wanted;
        }

        void switchLeg(int leg, int level, int tick) {
            legs[leg] = level;
            if (level == HIGH) {
                highTicks[leg]++;
                lastHigh[leg] = tick;
            } else if (level == LOW) {
                lowTicks[leg]++;
                lastLow[leg] = tick;
            }
        }

        long mixInto(long before) {
            long h = mix(before, pulseCounter);
            for (int leg = 0; leg < LEGS; leg++) {
                h = mix(h, legs[leg]);
            }
            for (int leg = 0; leg < LEGS; leg++) {
                h = mix(h, highTicks[leg]);
                h = mix(h, lowTicks[leg]);
            }
            return h;
        }
    }

    /** All that a tick changes and undo() brings back. */
    private static final class State {
        int tick = 0;
        final Settings settings = new Settings();
        final Queue queue = new Queue();
        final Sensors sensors = new Sensors();
        final Motion motion = new Motion();
        final Guard guard = new Guard();
        final Drive drive = new Drive();

        void copyFrom(State other) {
            tick = other.tick;
            settings.copyFrom(other.settings);
            queue.copyFrom(other.queue);
            sensors.copyFrom(other.sensors);
            motion.copyFrom(other.motion);
            guard.copyFrom(other.guard);
            drive.copyFrom(other.drive);
        }

        void passTick() {
            tick++;
            sensors.raw = queue.takeDue(tick, sensors.raw);
            boolean accepted = sensors.filterRaw(settings.filterTime);
            boolean edge = accepted && followAcceptedCode();
            watchTimes(edge);
            drive.advancePulse(settings.period);
            drive.setLegs(guard.mode, sensors.sector, settings, tick);
        }

        /** Returns whether the accepted code makes an edge. */
        boolean followAcceptedCode() {
            int before = sensors.sector;
            int after = sectorOf(sensors.filtered);
            sensors.sector = after;
            if (after == NONE) {
                motion.addIllegalCode();
                return false;
            }
            if (before == NONE || before == after) {
                return false;
            }
            int turned = (after - before + SECTORS) % SECTORS;
            if (turned != 1 && turned != SECTORS - 1) {
                motion.addSkip();
                return false;
            }
            int direction = turned == 1 ? 1 : -1;
            motion.addEdge(direction, tick);
            guard.judgeEdge(direction, tick, after);
            return true;
        }

        void watchTimes(boolean edge) {
            if (!guard.isDriving()) {
                guard.illegalTime = 0;
                guard.idleTime = 0;
            } else if (sensors.sector == NONE) {
                watchIllegalTime();
            } else {
                guard.illegalTime = 0;
                watchIdleTime(edge);
            }
        }

        void watchIllegalTime() {
            guard.illegalTime++;
            if (guard.illegalTime >= ILLEGAL_TIME_OF_FAULT) {
                guard.raiseFault(FAULT_SENSORS, tick, sensors.filtered);
            }
        }

        void watchIdleTime(boolean edge) {
            guard.idleTime = edge || settings.duty == 0 ? 0 : guard.idleTime + 1;
            if (guard.idleTime >= settings.stallTime) {
                guard.raiseFault(FAULT_STALL, tick, motion.position);
            }
        }
    }

    /** The saved states, the oldest first. */
    private static final class History {
        final State[] saved = {new State(), new State(), new State(), new State()};
        int count = 0;

        void save(State state) {
            if (count >= MAX_SAVED) {
                dropOldest();
            }
            saved[count].copyFrom(state);
            count++;
        }

        /** The oldest state's place goes to the end, to be written over, so that no new one is made. */
        void dropOldest() {
            State oldest = saved[0];
            for (int i = 1; i < MAX_SAVED; i++) {
                saved[i - 1] = saved[i];
            }
            saved[MAX_SAVED - 1] = oldest;
            count = MAX_SAVED - 1;
        }

        void restore(State state) {
            if (count <= 0) {
                return;
            }
            count--;
            state.copyFrom(saved[count]);
        }
    }
}
