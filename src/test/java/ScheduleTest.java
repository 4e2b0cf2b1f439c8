/** Promises 8 to 11 and 20: schedule, spin, run, sensors and waiting, with the glitch filter. */
public final class ScheduleTest {
    private static final Check CHECK = new Check();

    public static void main(String[] args) {
        scheduleRange();
        scheduleIsFull();
        orderOfScheduling();
        spinRange();
        spinIsFull();
        spinFromRawCode();
        spinFromLatestCode();
        spinBehindASingleCode();
        spinFromIllegalCode();
        spinBackwardThroughAllSectors();
        runRange();
        sensorsRange();
        filterCounts();
        glitchBeginsAnew();
        glitchFromAnIllegalCode();
        CHECK.end();
    }

    private static void scheduleRange() {
        HallCommutator x = new HallCommutator();
        CHECK.due("schedule(1, 0)", x.schedule(1, 0), 1);
        CHECK.due("schedule(100000, 7)", x.schedule(100000, 7), 2);
        for (int wrong : new int[] {0, -1, 100001, Integer.MIN_VALUE, Integer.MAX_VALUE}) {
            CHECK.illegalArgument(x, "schedule(" + wrong + ", 1)", () -> x.schedule(wrong, 1));
        }
        for (int wrong : new int[] {-1, 8, Integer.MIN_VALUE, Integer.MAX_VALUE}) {
            CHECK.illegalArgument(x, "schedule(1, " + wrong + ")", () -> x.schedule(1, wrong));
        }
        CHECK.due("waiting()", x.waiting(), 2);
        for (int i = 0; i < 19; i++) {
            x.run(5000);
        }
        CHECK.due("run(4999)", x.run(4999), 99999);
        CHECK.due("waiting() a tick before", x.waiting(), 1);
        CHECK.due("sensors(0) a tick before", x.sensors(0), 0);
        x.run(1);
        CHECK.due("waiting()", x.waiting(), 0);
        CHECK.due("sensors(0)", x.sensors(0), 7);
    }

    private static void scheduleIsFull() {
        HallCommutator x = new HallCommutator();
        for (int i = 1; i <= 40; i++) {
            CHECK.due("schedule " + i, x.schedule(i % 7 + 1, i % 8), i);
        }
        CHECK.illegalState(x, "schedule the 41st", () -> x.schedule(1, 1));
        CHECK.illegalArgument(x, "schedule(0, 1) when full", () -> x.schedule(0, 1));
        CHECK.illegalArgument(x, "schedule(1, 8) when full", () -> x.schedule(1, 8));
        x.run(1);
        CHECK.due("waiting() after a tick", x.waiting(), 35);
        CHECK.due("schedule after a tick", x.schedule(1, 1), 36);
    }

    private static void orderOfScheduling() {
        HallCommutator x = new HallCommutator();
        x.schedule(3, 5);
        x.schedule(2, 6);
        x.schedule(3, 4);
        x.schedule(2, 2);
        x.schedule(1, 3);
        x.run(1);
        CHECK.due("raw at 1", x.sensors(0), 3);
        x.run(1);
        CHECK.due("raw at 2", x.sensors(0), 2);
        CHECK.due("waiting at 2", x.waiting(), 2);
        x.run(1);
        CHECK.due("raw at 3", x.sensors(0), 4);
        CHECK.due("waiting at 3", x.waiting(), 0);
    }

    private static void spinRange() {
        HallCommutator x = new HallCommutator();
        for (int wrong : new int[] {0, 2, -2, Integer.MIN_VALUE, Integer.MAX_VALUE}) {
            CHECK.illegalArgument(x, "spin(" + wrong + ", 1, 1)", () -> x.spin(wrong, 1, 1));
        }
        for (int wrong : new int[] {0, -1, 1001, Integer.MIN_VALUE, Integer.MAX_VALUE}) {
            CHECK.illegalArgument(x, "spin(1, " + wrong + ", 1)", () -> x.spin(1, wrong, 1));
        }
        for (int wrong : new int[] {0, -1, 41, Integer.MIN_VALUE, Integer.MAX_VALUE}) {
            CHECK.illegalArgument(x, "spin(1, 1, " + wrong + ")", () -> x.spin(1, 1, wrong));
        }
        CHECK.due("spin(1, 1000, 40)", x.spin(1, 1000, 40), 40);
        CHECK.illegalArgument(x, "spin(0, 1, 1) when full", () -> x.spin(0, 1, 1));
        CHECK.illegalArgument(x, "spin(1, 0, 1) when full", () -> x.spin(1, 0, 1));
        CHECK.illegalArgument(x, "spin(1, 1, 41) when full", () -> x.spin(1, 1, 41));
    }

    private static void spinIsFull() {
        HallCommutator x = new HallCommutator();
        CHECK.due("spin(1, 1, 38)", x.spin(1, 1, 38), 38);
        CHECK.illegalState(x, "spin(1, 1, 3)", () -> x.spin(1, 1, 3));
        CHECK.due("spin(1, 1, 2)", x.spin(1, 1, 2), 40);
        CHECK.illegalState(x, "spin(-1, 1, 1)", () -> x.spin(-1, 1, 1));
    }

    private static void spinFromRawCode() {
        HallCommutator x = new HallCommutator();
        x.schedule(5, 6);
        x.run(5);
        CHECK.due("the filtered code is another", x.sensors(1), 1);
        CHECK.due("spin(1, 2, 1)", x.spin(1, 2, 1), 1);
        x.run(1);
        CHECK.due("raw at 6", x.sensors(0), 6);
        x.run(1);
        CHECK.due("raw at 7", x.sensors(0), 4);
    }

    private static void spinFromLatestCode() {
        HallCommutator x = new HallCommutator();
        x.schedule(10, 6);
        x.schedule(10, 2);
        x.schedule(4, 5);
        CHECK.due("spin(-1, 3, 2)", x.spin(-1, 3, 2), 5);
        x.run(12);
        CHECK.due("raw at 12", x.sensors(0), 2);
        x.run(1);
        CHECK.due("raw at 13", x.sensors(0), 3);
        x.run(2);
        CHECK.due("raw at 15", x.sensors(0), 3);
        x.run(1);
        CHECK.due("raw at 16", x.sensors(0), 1);
    }

    private static void spinBehindASingleCode() {
        HallCommutator x = new HallCommutator();
        x.schedule(10, 6);
        x.spin(1, 3, 1);
        x.run(12);
        CHECK.due("raw at 12", x.sensors(0), 6);
        x.run(1);
        CHECK.due("raw at 13", x.sensors(0), 4);
    }

    private static void spinFromIllegalCode() {
        HallCommutator x = new HallCommutator();
        x.schedule(5, 7);
        CHECK.illegalState(x, "spin behind a scheduled 7", () -> x.spin(1, 1, 1));
        x.schedule(5, 1);
        CHECK.due("spin behind a legal code of the same tick", x.spin(1, 1, 1), 3);
        HallCommutator y = new HallCommutator();
        y.schedule(1, 0);
        y.run(1);
        CHECK.illegalState(y, "spin from the raw code 0", () -> y.spin(-1, 1, 1));
        y.schedule(9, 5);
        CHECK.due("spin behind a legal code, the raw one illegal", y.spin(-1, 1, 1), 2);
    }

    private static void spinBackwardThroughAllSectors() {
        HallCommutator x = new HallCommutator();
        HallCommutator y = new HallCommutator();
        x.spin(-1, 1, 7);
        y.spin(1, 1, 7);
        int[] backward = {5, 4, 6, 2, 3, 1, 5};
        int[] forward = {3, 2, 6, 4, 5, 1, 3};
        for (int i = 0; i < 7; i++) {
            x.run(1);
            y.run(1);
            CHECK.due("backward step " + i, x.sensors(0), backward[i]);
            CHECK.due("forward step " + i, y.sensors(0), forward[i]);
        }
    }

    private static void runRange() {
        HallCommutator x = new HallCommutator();
        CHECK.due("run(0)", x.run(0), 0);
        CHECK.due("run(5000)", x.run(5000), 5000);
        CHECK.due("run(1)", x.run(1), 5001);
        for (int wrong : new int[] {-1, 5001, Integer.MIN_VALUE, Integer.MAX_VALUE}) {
            CHECK.illegalArgument(x, "run(" + wrong + ")", () -> x.run(wrong));
        }
    }

    private static void sensorsRange() {
        HallCommutator x = new HallCommutator();
        for (int wrong : new int[] {-1, 4, Integer.MIN_VALUE, Integer.MAX_VALUE}) {
            CHECK.illegalArgument(x, "sensors(" + wrong + ")", () -> x.sensors(wrong));
        }
        int[] codes = {1, 3, 2, 6, 4, 5};
        x.setFilter(1);
        for (int sector = 5; sector >= 0; sector--) {
            x.schedule(1, codes[sector]);
            x.run(1);
            CHECK.due("the sector of code " + codes[sector], x.sensors(2), sector);
        }
        for (int illegal : new int[] {0, 7}) {
            x.schedule(1, illegal);
            x.run(1);
            CHECK.due("the sector of code " + illegal, x.sensors(2), HallCommutator.NONE);
        }
        CHECK.due("illegal after illegal counts too", x.counts(0), 2);
    }

    private static void filterCounts() {
        HallCommutator x = new HallCommutator();
        x.schedule(2, 3);
        int[] counts = {0, 1, 2, 0, 0};
        int[] filtered = {1, 1, 1, 3, 3};
        for (int i = 0; i < 5; i++) {
            x.run(1);
            CHECK.due("filter count at " + (i + 1), x.sensors(3), counts[i]);
            CHECK.due("filtered code at " + (i + 1), x.sensors(1), filtered[i]);
        }
    }

    private static void glitchBeginsAnew() {
        HallCommutator x = new HallCommutator();
        x.schedule(1, 3);
        x.schedule(3, 2);
        x.schedule(5, 3);
        x.schedule(7, 1);
        x.schedule(8, 3);
        int[] counts = {1, 2, 1, 2, 1, 2, 0, 1, 2, 0};
        for (int i = 0; i < counts.length; i++) {
            x.run(1);
            CHECK.due("filter count at " + (i + 1), x.sensors(3), counts[i]);
            CHECK.due("filtered code at " + (i + 1), x.sensors(1), i < 9 ? 1 : 3);
        }
    }

    private static void glitchFromAnIllegalCode() {
        HallCommutator x = new HallCommutator();
        x.schedule(1, 7);
        x.schedule(5, 3);
        x.schedule(7, 7);
        x.run(9);
        CHECK.due("sensors(1)", x.sensors(1), 7);
        CHECK.due("sensors(2)", x.sensors(2), HallCommutator.NONE);
        CHECK.due("the illegal code is counted once", x.counts(0), 1);
    }
}
