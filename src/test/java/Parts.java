/**
 * The digest that is due: what the object's calls answer is read from it, and what no call answers (the
 * tick, the settings, the pulse counter, the times, the waiting codes, the saved states) the test tells.
 */
final class Parts {
    private final HallCommutator x;
    private final int tick;
    private final int saved;
    private int filter = 3;
    private int period = 10;
    private int duty = 50;
    private int dead = 2;
    private int stall = 500;
    private int pulse = 0;
    private int wrongEdges = 0;
    private int illegalTime = 0;
    private int idleTime = 0;
    private int[] waiting = {};
    private long h = 2843;

    Parts(HallCommutator x, int tick, int saved) {
        this.x = x;
        this.tick = tick;
        this.saved = saved;
    }

    Parts filter(int ticks) {
        filter = ticks;
        return this;
    }

    Parts pulse(int newPeriod, int newDuty, int counter) {
        period = newPeriod;
        duty = newDuty;
        pulse = counter;
        return this;
    }

    Parts deadTime(int ticks) {
        dead = ticks;
        return this;
    }

    Parts stall(int ticks) {
        stall = ticks;
        return this;
    }

    Parts times(int wrong, int illegal, int idle) {
        wrongEdges = wrong;
        illegalTime = illegal;
        idleTime = idle;
        return this;
    }

    /** The waiting codes in their order, each with its tick before it. */
    Parts waiting(int... ticksAndCodes) {
        waiting = ticksAndCodes.clone();
        return this;
    }

    private void mix(int... values) {
        for (int v : values) {
            h = 31 * h + v;
        }
    }

    private int intervals() {
        int n = 0;
        while (n < 7 && Check.outcome(intervalAt(n)) instanceof Integer) {
            n++;
        }
        return n;
    }

    private Check.Call intervalAt(int index) {
        return () -> x.interval(index);
    }

    long digest() {
        h = 2843;
        mix(tick, filter, period, duty, dead, stall, x.mode());
        mix(x.sensors(0), x.sensors(1), x.sensors(2), x.sensors(3), pulse);
        mix(x.leg(0), x.leg(1), x.leg(2));
        for (int leg = 0; leg < 3; leg++) {
            mix(x.onTicks(leg, true), x.onTicks(leg, false));
        }
        mix(x.position(), x.counts(0), x.counts(1), x.counts(2), x.counts(3));
        int n = intervals();
        mix(n);
        for (int i = 0; i < n; i++) {
            mix(x.interval(i));
        }
        mix(wrongEdges, illegalTime, idleTime);
        mix(x.fault(0), x.fault(1), x.fault(2));
        mix(waiting.length / 2);
        mix(waiting);
        mix(saved);
        return h;
    }
}
