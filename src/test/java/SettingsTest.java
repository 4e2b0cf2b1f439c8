/** Promises 1 to 7: a new object, the settings, the mode and clearFault. */
public final class SettingsTest {
    private static final Check CHECK = new Check();

    public static void main(String[] args) {
        newObject();
        filterRange();
        filterLoweredWhileCounting();
        filterOfOneTick();
        pulseRange();
        pulseRoundsDown();
        pulseCounterStays();
        deadTimeRange();
        deadTimeChangedInside();
        stallRange();
        stallLoweredBelowIdleTime();
        modeRange();
        sameModeKeepsTimes();
        otherModeClearsTimes();
        legsChangeAtTheNextTick();
        clearFault();
        CHECK.end();
    }

    private static void newObject() {
        HallCommutator x = new HallCommutator();
        CHECK.due("digest() of a new object", x.digest(), digestOfNew());
        CHECK.due("sensors(0)", x.sensors(0), 1);
        CHECK.due("sensors(1)", x.sensors(1), 1);
        CHECK.due("sensors(2)", x.sensors(2), 0);
        CHECK.due("sensors(3)", x.sensors(3), 0);
        CHECK.due("mode()", x.mode(), 0);
        CHECK.legs(x, "of a new object", 0, 0, 0);
        CHECK.due("position()", x.position(), 0);
        CHECK.due("speed()", x.speed(), 0.0);
        CHECK.due("waiting()", x.waiting(), 0);
        CHECK.due("run(0)", x.run(0), 0);
        HallCommutator y = new HallCommutator();
        y.run(7);
        CHECK.due("run(0) beside another object", x.run(0), 0);
    }

    private static long digestOfNew() {
        int[] values = {0, 3, 10, 50, 2, 500, 0, 1, 1, 0, 0, 0, 0, 0, 0, 0, 0, 0, 0, 0, 0, 0, 0, 0, 0, 0,
            0, 0, 0, 0, 0, 0, 0, 0, 0};
        long h = 2843;
        for (int v : values) {
            h = 31 * h + v;
        }
        return h;
    }

    private static void filterRange() {
        HallCommutator x = new HallCommutator();
        CHECK.due("setFilter(1)", x.setFilter(1), 3);
        CHECK.due("setFilter(50)", x.setFilter(50), 1);
        CHECK.due("setFilter(50) again", x.setFilter(50), 50);
        for (int wrong : new int[] {0, 51, -1, Integer.MIN_VALUE, Integer.MAX_VALUE}) {
            CHECK.illegalArgument(x, "setFilter(" + wrong + ")", () -> x.setFilter(wrong));
        }
    }

    private static void filterLoweredWhileCounting() {
        HallCommutator x = new HallCommutator();
        x.setFilter(50);
        x.schedule(1, 3);
        x.run(10);
        CHECK.due("filter count after 10 ticks", x.sensors(3), 10);
        x.setFilter(4);
        CHECK.due("the filtered code before the next tick", x.sensors(1), 1);
        x.run(1);
        CHECK.due("the filtered code after it", x.sensors(1), 3);
        CHECK.due("the filter count after it", x.sensors(3), 0);
    }

    private static void filterOfOneTick() {
        HallCommutator x = new HallCommutator();
        x.setFilter(1);
        x.schedule(1, 3);
        x.schedule(2, 2);
        x.run(1);
        CHECK.due("accepted at once", x.sensors(1), 3);
        x.run(1);
        CHECK.due("accepted at once again", x.sensors(1), 2);
        CHECK.due("interval(0)", x.interval(0), 1);
    }

    private static void pulseRange() {
        HallCommutator x = new HallCommutator();
        CHECK.due("setPulse(4, 0)", x.setPulse(4, 0), 50);
        CHECK.due("setPulse(100, 100)", x.setPulse(100, 100), 0);
        CHECK.due("setPulse(10, 7)", x.setPulse(10, 7), 100);
        for (int wrong : new int[] {3, 101, 0, -4, Integer.MIN_VALUE, Integer.MAX_VALUE}) {
            CHECK.illegalArgument(x, "setPulse(" + wrong + ", 50)", () -> x.setPulse(wrong, 50));
        }
        for (int wrong : new int[] {-1, 101, Integer.MIN_VALUE, Integer.MAX_VALUE}) {
            CHECK.illegalArgument(x, "setPulse(10, " + wrong + ")", () -> x.setPulse(10, wrong));
        }
    }

    private static void pulseRoundsDown() {
        CHECK.due("7 ticks, 50 percent", highTicksOfOnePeriod(7, 50), 3);
        CHECK.due("7 ticks, 99 percent", highTicksOfOnePeriod(7, 99), 6);
        CHECK.due("7 ticks, 100 percent", highTicksOfOnePeriod(7, 100), 7);
        CHECK.due("4 ticks, 24 percent", highTicksOfOnePeriod(4, 24), 0);
        CHECK.due("4 ticks, 25 percent", highTicksOfOnePeriod(4, 25), 1);
        CHECK.due("100 ticks, 1 percent", highTicksOfOnePeriod(100, 1), 1);
        CHECK.due("100 ticks, 0 percent", highTicksOfOnePeriod(100, 0), 0);
    }

    private static int highTicksOfOnePeriod(int period, int duty) {
        HallCommutator x = new HallCommutator();
        x.setPulse(period, duty);
        x.setMode(1);
        x.run(period);
        return x.onTicks(0, true);
    }

    private static void pulseCounterStays() {
        HallCommutator x = new HallCommutator();
        x.setPulse(100, 50);
        x.setMode(1);
        x.run(30);
        x.setPulse(10, 50);
        CHECK.due("leg(0) before the next tick", x.leg(0), 1);
        x.run(1);
        CHECK.due("a counter above P becomes 0", x.leg(0), 1);
        x.run(4);
        CHECK.due("leg(0) at counter 4", x.leg(0), 1);
        x.run(1);
        CHECK.due("leg(0) at counter 5", x.leg(0), 0);
        x.setPulse(20, 50);
        x.run(4);
        CHECK.due("leg(0) at counter 9 of 20", x.leg(0), 1);
        x.run(1);
        CHECK.due("leg(0) at counter 10 of 20", x.leg(0), 0);
    }

    private static void deadTimeRange() {
        HallCommutator x = new HallCommutator();
        CHECK.due("setDeadTime(0)", x.setDeadTime(0), 2);
        CHECK.due("setDeadTime(20)", x.setDeadTime(20), 0);
        CHECK.due("setDeadTime(20) again", x.setDeadTime(20), 20);
        for (int wrong : new int[] {-1, 21, Integer.MIN_VALUE, Integer.MAX_VALUE}) {
            CHECK.illegalArgument(x, "setDeadTime(" + wrong + ")", () -> x.setDeadTime(wrong));
        }
    }

    private static void deadTimeChangedInside() {
        HallCommutator x = new HallCommutator();
        x.setDeadTime(20);
        x.setPulse(4, 100);
        x.setMode(1);
        x.run(5);
        x.setMode(2);
        x.run(3);
        CHECK.legs(x, "in the dead time", 0, 0, 0);
        x.setDeadTime(3);
        x.run(1);
        CHECK.legs(x, "four ticks after, dead time 3", -1, 1, 0);
    }

    private static void stallRange() {
        HallCommutator x = new HallCommutator();
        CHECK.due("setStall(10)", x.setStall(10), 500);
        CHECK.due("setStall(100000)", x.setStall(100000), 10);
        CHECK.due("setStall(11)", x.setStall(11), 100000);
        for (int wrong : new int[] {9, 100001, 0, -10, Integer.MIN_VALUE, Integer.MAX_VALUE}) {
            CHECK.illegalArgument(x, "setStall(" + wrong + ")", () -> x.setStall(wrong));
        }
    }

    private static void stallLoweredBelowIdleTime() {
        HallCommutator x = new HallCommutator();
        x.setMode(2);
        x.run(100);
        x.setStall(50);
        CHECK.due("no fault before the next tick", x.fault(0), 0);
        x.run(1);
        CHECK.due("fault(0)", x.fault(0), 3);
        CHECK.due("fault(1)", x.fault(1), 101);
    }

    private static void modeRange() {
        HallCommutator x = new HallCommutator();
        for (int mode = 1; mode <= 4; mode++) {
            CHECK.due("setMode(" + mode + ")", x.setMode(mode), mode - 1);
            CHECK.due("mode()", x.mode(), mode);
        }
        CHECK.due("setMode(0)", x.setMode(0), 4);
        for (int wrong : new int[] {-1, 5, Integer.MIN_VALUE, Integer.MAX_VALUE}) {
            CHECK.illegalArgument(x, "setMode(" + wrong + ")", () -> x.setMode(wrong));
        }
        x.setStall(10);
        x.setMode(1);
        x.run(10);
        CHECK.illegalArgument(x, "setMode(5) with a fault", () -> x.setMode(5));
        for (int mode = 0; mode <= 4; mode++) {
            int barred = mode;
            CHECK.illegalState(x, "setMode(" + mode + ") with a fault", () -> x.setMode(barred));
        }
    }

    private static void sameModeKeepsTimes() {
        HallCommutator x = new HallCommutator();
        x.setStall(10);
        x.setMode(1);
        x.run(9);
        CHECK.due("setMode(1) again", x.setMode(1), 1);
        x.run(1);
        CHECK.due("the idle time went on", x.fault(0), 3);
    }

    private static void otherModeClearsTimes() {
        HallCommutator x = new HallCommutator();
        x.setStall(10);
        x.setMode(1);
        x.run(9);
        x.setMode(2);
        x.run(9);
        CHECK.due("the idle time began anew", x.fault(0), 0);
        x.run(1);
        CHECK.due("and ended", x.fault(1), 19);
        HallCommutator y = new HallCommutator();
        y.schedule(1, 0);
        y.setMode(1);
        y.run(22 - 1);
        y.setMode(2);
        y.run(19);
        CHECK.due("the illegal time began anew", y.fault(0), 0);
        y.run(1);
        CHECK.due("and ended", y.fault(0), 1);
    }

    private static void legsChangeAtTheNextTick() {
        HallCommutator x = new HallCommutator();
        x.setMode(3);
        CHECK.legs(x, "before the tick", 0, 0, 0);
        x.run(1);
        CHECK.legs(x, "after the tick", -1, -1, -1);
        x.setMode(0);
        CHECK.legs(x, "before the tick of coasting", -1, -1, -1);
        x.run(1);
        CHECK.legs(x, "after the tick of coasting", 0, 0, 0);
    }

    private static void clearFault() {
        HallCommutator x = new HallCommutator();
        CHECK.illegalState(x, "clearFault() of a new object", () -> x.clearFault());
        x.setStall(10);
        x.setMode(1);
        x.run(10);
        CHECK.due("clearFault()", x.clearFault(), 3);
        CHECK.due("fault(0)", x.fault(0), 0);
        CHECK.due("fault(1)", x.fault(1), 0);
        CHECK.due("fault(2)", x.fault(2), 0);
        CHECK.due("counts(3)", x.counts(3), 1);
        CHECK.illegalState(x, "clearFault() again", () -> x.clearFault());
        CHECK.due("setMode(1)", x.setMode(1), 0);
    }
}
