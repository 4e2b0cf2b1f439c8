/** Motors in the states that the tests of the boundary cases begin from. */
final class Motors {
    private static final int[] CODES = {1, 3, 2, 6, 4, 5};

    private Motors() {
    }

    /** Accepts each code at the tick at which it comes. */
    static HallCommutator quick(int mode) {
        HallCommutator x = new HallCommutator();
        x.setFilter(1);
        x.setMode(mode);
        return x;
    }

    static void come(HallCommutator x, int delay, int code) {
        x.schedule(delay, code);
        x.run(delay);
    }

    static int codeOf(int sector) {
        return CODES[Math.floorMod(sector, 6)];
    }

    static void runLong(HallCommutator x, int ticks) {
        for (int left = ticks; left > 0; left -= 5000) {
            x.run(Math.min(left, 5000));
        }
    }

    static String faultOf(HallCommutator x) {
        return x.fault(0) + " at " + x.fault(1) + " detail " + x.fault(2);
    }

    static String countsOf(HallCommutator x) {
        return x.counts(0) + " " + x.counts(1) + " " + x.counts(2) + " " + x.counts(3);
    }

    static String legsOf(HallCommutator x) {
        return x.leg(0) + " " + x.leg(1) + " " + x.leg(2);
    }

    /** The states in which every refused call is tried. */
    enum Scene {
        NEW, BUSY, UNDONE, FAULTY, FULL, BLIND, BLIND_AHEAD;

        HallCommutator make() {
            switch (this) {
                case BUSY:
                    return busy();
                case UNDONE:
                    return undone();
                case FAULTY:
                    return faulty();
                case FULL:
                    return full();
                case BLIND:
                    return blind();
                case BLIND_AHEAD:
                    return blindAhead();
                default:
                    return new HallCommutator();
            }
        }
    }

    /** Four unlike saved states, a candidate code, intervals, wrong edges, idle time and dead time. */
    private static HallCommutator busy() {
        HallCommutator x = new HallCommutator();
        x.setFilter(2);
        x.setPulse(9, 60);
        x.setDeadTime(7);
        x.spin(1, 5, 4);
        x.spin(-1, 6, 2);
        x.schedule(40, 5);
        x.schedule(60, 3);
        x.schedule(60, 1);
        x.setMode(1);
        x.run(20);
        x.run(9);
        x.run(5);
        x.run(3);
        x.run(3);
        return x;
    }

    /** As it was within the busy run, but without a saved state. */
    private static HallCommutator undone() {
        HallCommutator x = busy();
        for (int i = 0; i < 4; i++) {
            x.undo();
        }
        return x;
    }

    private static HallCommutator faulty() {
        HallCommutator x = new HallCommutator();
        x.setStall(12);
        x.spin(1, 6, 2);
        x.schedule(70, 3);
        x.setMode(1);
        x.run(20);
        x.run(20);
        return x;
    }

    private static HallCommutator full() {
        HallCommutator x = new HallCommutator();
        x.setMode(4);
        x.run(3);
        x.spin(1, 2, 20);
        x.schedule(7, 0);
        x.schedule(7, 7);
        x.spin(-1, 3, 18);
        return x;
    }

    /** The raw and the filtered code are illegal, and no code is waiting. */
    private static HallCommutator blind() {
        HallCommutator x = new HallCommutator();
        x.setMode(2);
        come(x, 2, 0);
        come(x, 4, 7);
        x.run(2);
        return x;
    }

    /** The raw code is legal, but the code to start a spin from is not. */
    private static HallCommutator blindAhead() {
        HallCommutator x = new HallCommutator();
        x.setMode(3);
        x.schedule(30, 6);
        x.schedule(30, 7);
        x.schedule(9, 2);
        return x;
    }
}
