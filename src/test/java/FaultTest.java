/** Promise 19 and the faults of a tick: sensors, reversal and stall. */
public final class FaultTest {
    private static final Check CHECK = new Check();

    public static void main(String[] args) {
        faultRange();
        sensors();
        illegalTimeBeginsAnew();
        illegalTimeOnlyWhileDriving();
        reversalForward();
        reversalReverse();
        rightEdgeClearsWrongOnes();
        wrongEdgesOnlyWhileDriving();
        skipKeepsWrongEdges();
        stallBoundary();
        edgeClearsIdleTime();
        noStallWithoutDuty();
        illegalCodeHoldsIdleTime();
        stallOnlyWhileDriving();
        reversalBeforeStall();
        faultEndsDriving();
        CHECK.end();
    }

    private static void fault(HallCommutator x, String when, int number, int tick, int detail) {
        String got = x.fault(0) + " " + x.fault(1) + " " + x.fault(2);
        CHECK.due("fault " + when, got, number + " " + tick + " " + detail);
    }

    private static void faultRange() {
        HallCommutator x = new HallCommutator();
        fault(x, "of a new object", 0, 0, 0);
        for (int wrong : new int[] {-1, 3, Integer.MIN_VALUE, Integer.MAX_VALUE}) {
            CHECK.illegalArgument(x, "fault(" + wrong + ")", () -> x.fault(wrong));
        }
    }

    private static void sensors() {
        for (int code : new int[] {0, 7}) {
            for (int mode : new int[] {1, 2}) {
                HallCommutator x = Motors.quick(mode);
                Motors.come(x, 5, code);
                x.run(18);
                fault(x, "after 19 illegal ticks", 0, 0, 0);
                x.run(1);
                fault(x, "after 20 illegal ticks", 1, 24, code);
                CHECK.due("mode()", x.mode(), 0);
                CHECK.due("counts(3)", x.counts(3), 1);
            }
        }
    }

    private static void illegalTimeBeginsAnew() {
        HallCommutator x = Motors.quick(1);
        Motors.come(x, 1, 7);
        x.run(18);
        Motors.come(x, 1, 1);
        Motors.come(x, 1, 0);
        x.run(10);
        Motors.come(x, 1, 7);
        x.run(7);
        fault(x, "after 19 ticks of two illegal codes", 0, 0, 0);
        x.run(1);
        fault(x, "after 20 of them", 1, 40, 7);
    }

    private static void illegalTimeOnlyWhileDriving() {
        for (int mode : new int[] {0, 3, 4}) {
            HallCommutator x = Motors.quick(mode);
            Motors.come(x, 1, 7);
            x.run(600);
            fault(x, "in mode " + mode, 0, 0, 0);
            CHECK.due("mode()", x.mode(), mode);
            x.setMode(1);
            x.run(19);
            fault(x, "19 ticks after mode " + mode, 0, 0, 0);
            x.run(1);
            fault(x, "20 ticks after mode " + mode, 1, 621, 7);
        }
    }

    private static void reversalForward() {
        HallCommutator x = Motors.quick(1);
        x.spin(-1, 4, 3);
        x.run(11);
        fault(x, "after 2 wrong edges", 0, 0, 0);
        x.run(1);
        fault(x, "after 3 wrong edges", 2, 12, 3);
        CHECK.due("mode()", x.mode(), 0);
        CHECK.due("position()", x.position(), -3);
        CHECK.due("counts(3)", x.counts(3), 1);
        CHECK.due("the list of intervals stays", x.interval(1), 4);
        CHECK.due("clearFault()", x.clearFault(), 2);
    }

    private static void reversalReverse() {
        HallCommutator x = Motors.quick(2);
        x.spin(-1, 4, 5);
        x.spin(1, 4, 3);
        x.run(31);
        fault(x, "after 2 wrong edges in reverse", 0, 0, 0);
        x.run(1);
        fault(x, "after 3 wrong edges in reverse", 2, 32, 4);
    }

    private static void rightEdgeClearsWrongOnes() {
        HallCommutator x = Motors.quick(1);
        x.spin(-1, 1, 2);
        x.spin(1, 1, 1);
        x.spin(-1, 1, 2);
        x.run(5);
        fault(x, "after 2, a right one, 2", 0, 0, 0);
        Motors.come(x, 1, 2);
        fault(x, "and one more", 2, 6, 2);
    }

    private static void wrongEdgesOnlyWhileDriving() {
        for (int mode : new int[] {0, 3, 4}) {
            HallCommutator x = Motors.quick(mode);
            x.spin(-1, 1, 12);
            x.spin(1, 1, 12);
            x.run(24);
            fault(x, "in mode " + mode, 0, 0, 0);
            CHECK.due("counts(2)", x.counts(2), 24);
        }
        HallCommutator x = Motors.quick(1);
        x.spin(-1, 1, 2);
        x.run(2);
        x.setMode(0);
        x.setMode(1);
        x.spin(-1, 1, 2);
        x.run(2);
        fault(x, "2 wrong edges before and 2 behind another mode", 0, 0, 0);
    }

    private static void skipKeepsWrongEdges() {
        HallCommutator x = Motors.quick(1);
        x.spin(-1, 1, 2);
        x.run(2);
        Motors.come(x, 1, 3);
        Motors.come(x, 1, 7);
        Motors.come(x, 1, 3);
        fault(x, "a skip and an illegal code are no edges", 0, 0, 0);
        Motors.come(x, 1, 1);
        fault(x, "the third wrong edge", 2, 6, 0);
    }

    private static void stallBoundary() {
        for (int mode : new int[] {1, 2}) {
            HallCommutator x = Motors.quick(mode);
            Motors.come(x, 1, 5);
            x.run(499);
            fault(x, "499 ticks after an edge", 0, 0, 0);
            x.run(1);
            fault(x, "500 ticks after an edge", 3, 501, -1);
            CHECK.due("mode()", x.mode(), 0);
        }
    }

    private static void edgeClearsIdleTime() {
        HallCommutator x = Motors.quick(1);
        x.setStall(10);
        x.spin(1, 10, 5);
        x.run(59);
        fault(x, "with an edge at every tenth tick", 0, 0, 0);
        x.run(1);
        fault(x, "ten ticks after the last", 3, 60, 5);
        HallCommutator y = Motors.quick(1);
        y.setStall(10);
        y.schedule(5, 2);
        y.run(10);
        fault(y, "a skip is no edge", 3, 10, 0);
    }

    private static void noStallWithoutDuty() {
        HallCommutator x = Motors.quick(1);
        x.setStall(10);
        x.run(9);
        x.setPulse(10, 0);
        x.run(100);
        fault(x, "without duty", 0, 0, 0);
        x.setPulse(10, 1);
        x.run(9);
        fault(x, "9 ticks with duty", 0, 0, 0);
        x.run(1);
        fault(x, "10 ticks with duty, though the pulse is never on", 3, 119, 0);
    }

    private static void illegalCodeHoldsIdleTime() {
        HallCommutator x = Motors.quick(1);
        x.setStall(10);
        x.run(5);
        Motors.come(x, 1, 7);
        x.run(14);
        Motors.come(x, 1, 1);
        x.run(3);
        fault(x, "9 idle ticks, 15 illegal ones", 0, 0, 0);
        x.run(1);
        fault(x, "10 idle ticks", 3, 25, 0);
        HallCommutator y = Motors.quick(1);
        y.setStall(10);
        y.run(9);
        Motors.come(y, 1, 7);
        y.run(18);
        fault(y, "idle time 9 while illegal", 0, 0, 0);
        y.run(1);
        fault(y, "only the illegal time grows", 1, 29, 7);
    }

    private static void stallOnlyWhileDriving() {
        for (int mode : new int[] {0, 3, 4}) {
            HallCommutator x = Motors.quick(mode);
            x.setStall(10);
            x.run(100);
            fault(x, "in mode " + mode, 0, 0, 0);
            x.setMode(1);
            x.run(9);
            fault(x, "9 ticks after mode " + mode, 0, 0, 0);
        }
    }

    private static void reversalBeforeStall() {
        HallCommutator x = Motors.quick(1);
        x.spin(-1, 20, 3);
        x.run(59);
        x.setStall(10);
        x.run(1);
        fault(x, "an edge at this tick", 2, 60, 3);
        CHECK.due("counts(3)", x.counts(3), 1);
        x.clearFault();
        x.setMode(1);
        x.run(9);
        fault(x, "the idle time began anew", 0, 0, 0);
    }

    private static void faultEndsDriving() {
        HallCommutator x = Motors.quick(1);
        x.setStall(10);
        x.setPulse(10, 100);
        x.run(9);
        CHECK.legs(x, "before the fault", 1, -1, 0);
        x.run(1);
        CHECK.legs(x, "at the tick of the fault", 0, 0, 0);
        x.run(100);
        fault(x, "stays as it was", 3, 10, 0);
        CHECK.due("counts(3)", x.counts(3), 1);
        CHECK.due("onTicks(1, false)", x.onTicks(1, false), 9);
    }
}
