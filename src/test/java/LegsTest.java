/** Promises 12 to 14: mode, leg and onTicks, with the pulse and the dead time. */
public final class LegsTest {
    private static final Check CHECK = new Check();
    private static final int[] CODES = {1, 3, 2, 6, 4, 5};
    private static final int[][] FORWARD = {{1, -1, 0}, {1, 0, -1}, {0, 1, -1}, {-1, 1, 0}, {-1, 0, 1}, {0, -1, 1}};

    public static void main(String[] args) {
        legRange();
        tableInEveryMode();
        pulseOff();
        noSector();
        deadTimeFromLowToHigh();
        deadTimeFromHighToLow();
        noDeadTime();
        deadTimeLooksAtWhatTheLegWas();
        onTicksOfEverySwitch();
        CHECK.end();
    }

    private static void legRange() {
        HallCommutator x = new HallCommutator();
        for (int wrong : new int[] {-1, 3, Integer.MIN_VALUE, Integer.MAX_VALUE}) {
            CHECK.outOfBounds(x, "leg(" + wrong + ")", () -> x.leg(wrong));
            CHECK.outOfBounds(x, "onTicks(" + wrong + ", true)", () -> x.onTicks(wrong, true));
            CHECK.outOfBounds(x, "onTicks(" + wrong + ", false)", () -> x.onTicks(wrong, false));
        }
    }

    private static void tableInEveryMode() {
        for (int sector = 0; sector < 6; sector++) {
            int[] t = FORWARD[sector];
            HallCommutator x = new HallCommutator();
            x.setFilter(1);
            x.setDeadTime(0);
            x.setPulse(4, 100);
            x.schedule(1, CODES[sector]);
            x.setMode(1);
            x.run(2);
            CHECK.legs(x, "of sector " + sector + " forward", t[0], t[1], t[2]);
            x.setMode(2);
            x.run(1);
            CHECK.legs(x, "of sector " + sector + " reverse", -t[0], -t[1], -t[2]);
            x.setMode(3);
            x.run(1);
            CHECK.legs(x, "of sector " + sector + " dynamic", -1, -1, -1);
            x.setMode(4);
            x.run(1);
            CHECK.legs(x, "of sector " + sector + " regenerative", -t[0] * t[0], -t[1] * t[1], -t[2] * t[2]);
            CHECK.due("mode()", x.mode(), 4);
            x.setMode(0);
            x.run(1);
            CHECK.legs(x, "of sector " + sector + " coast", 0, 0, 0);
        }
    }

    private static void pulseOff() {
        HallCommutator x = new HallCommutator();
        x.setPulse(10, 0);
        x.setMode(1);
        x.run(1);
        CHECK.legs(x, "forward, pulse off", 0, -1, 0);
        x.setMode(2);
        x.run(1);
        CHECK.legs(x, "reverse, pulse off", -1, 0, 0);
        x.setMode(4);
        x.run(1);
        CHECK.legs(x, "regenerative, pulse off", 0, 0, 0);
        x.setMode(3);
        x.run(1);
        CHECK.legs(x, "dynamic, pulse off", -1, -1, -1);
    }

    private static void noSector() {
        HallCommutator x = new HallCommutator();
        x.setFilter(1);
        x.setPulse(4, 100);
        x.schedule(1, 7);
        for (int mode : new int[] {1, 2, 4}) {
            x.setMode(mode);
            x.run(1);
            CHECK.legs(x, "without a sector in mode " + mode, 0, 0, 0);
        }
        x.setMode(3);
        x.run(1);
        CHECK.legs(x, "without a sector in mode 3", -1, -1, -1);
    }

    private static void deadTimeFromLowToHigh() {
        HallCommutator x = new HallCommutator();
        x.setPulse(4, 100);
        x.setMode(3);
        x.run(5);
        x.setMode(1);
        x.run(1);
        CHECK.legs(x, "1 tick after low", 0, -1, 0);
        x.run(1);
        CHECK.legs(x, "2 ticks after low", 0, -1, 0);
        x.run(1);
        CHECK.legs(x, "3 ticks after low", 1, -1, 0);
    }

    private static void deadTimeFromHighToLow() {
        HallCommutator x = new HallCommutator();
        x.setPulse(4, 100);
        x.setDeadTime(20);
        x.setMode(1);
        x.run(1);
        CHECK.legs(x, "no dead time at the first tick", 1, -1, 0);
        x.setMode(3);
        for (int i = 1; i <= 20; i++) {
            x.run(1);
            CHECK.legs(x, i + " ticks after high", 0, -1, -1);
        }
        x.run(1);
        CHECK.legs(x, "21 ticks after high", -1, -1, -1);
    }

    private static void noDeadTime() {
        HallCommutator x = new HallCommutator();
        x.setPulse(4, 100);
        x.setDeadTime(0);
        x.setMode(1);
        x.run(1);
        x.setMode(2);
        x.run(1);
        CHECK.legs(x, "at once", -1, 1, 0);
        x.setDeadTime(1);
        x.setMode(1);
        x.run(1);
        CHECK.legs(x, "dead time 1, the tick after", 0, 0, 0);
        x.run(1);
        CHECK.legs(x, "dead time 1, two ticks after", 1, -1, 0);
    }

    /** The dead time begins with the last tick at which the leg was low, not with the last wish for it. */
    private static void deadTimeLooksAtWhatTheLegWas() {
        HallCommutator x = new HallCommutator();
        x.setPulse(4, 100);
        x.setDeadTime(5);
        x.setMode(1);
        x.run(1);
        x.setMode(2);
        x.run(4);
        CHECK.legs(x, "4 ticks of a barred wish", 0, 0, 0);
        x.setMode(1);
        x.run(1);
        CHECK.legs(x, "the wish of before is not barred", 1, -1, 0);
    }

    private static void onTicksOfEverySwitch() {
        HallCommutator x = new HallCommutator();
        x.setMode(1);
        x.run(10);
        String when = "of 10 ticks forward: ";
        CHECK.due(when + "A high", x.onTicks(0, true), 5);
        CHECK.due(when + "A low", x.onTicks(0, false), 0);
        CHECK.due(when + "B high", x.onTicks(1, true), 0);
        CHECK.due(when + "B low", x.onTicks(1, false), 10);
        CHECK.due(when + "C high", x.onTicks(2, true), 0);
        CHECK.due(when + "C low", x.onTicks(2, false), 0);
        x.setMode(3);
        x.run(10);
        when = "and 10 ticks braking: ";
        CHECK.due(when + "A high", x.onTicks(0, true), 5);
        CHECK.due(when + "A low", x.onTicks(0, false), 8);
        CHECK.due(when + "B low", x.onTicks(1, false), 20);
        CHECK.due(when + "C low", x.onTicks(2, false), 10);
        x.setMode(0);
        CHECK.due("a new mode counts nothing", x.onTicks(2, false), 10);
        x.run(10);
        CHECK.due("coasting counts nothing", x.onTicks(2, false), 10);
    }
}
