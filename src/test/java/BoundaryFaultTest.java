/** The boundary cases of the wrong edges, the illegal time, the idle time and the faults: steps 3 and 4. */
public final class BoundaryFaultTest {
    private static final Check CHECK = new Check();
    private static final String NO_FAULT = "0 at 0 detail 0";

    public static void main(String[] args) {
        thirdWrongEdge();
        rightEdgeEndsTheRow();
        wrongEdgesAcrossSkipsAndIllegalCodes();
        wrongEdgesOnlyInModesOneAndTwo();
        twentiethIllegalTick();
        illegalTimeOfTwoCodes();
        legalCodeEndsTheIllegalTime();
        detailIsTheFilteredCode();
        illegalTimeOnlyInModesOneAndTwo();
        everyShortStallTime();
        shortestAndLongestStallTime();
        stallTimeLowered();
        stallTimeRaised();
        edgeAtTheTickOfTheStall();
        skipIsNoEdge();
        noDutyNoIdleTime();
        anyDutyIsEnough();
        illegalCodeHoldsTheIdleTime();
        tickOfTheLegalCodeIsIdle();
        idleTimeOnlyInModesOneAndTwo();
        detailOfAStallBelowZero();
        oneFaultAtATick();
        faultClearsAllTimes();
        legsAreOffAtTheTickOfAFault();
        nothingFollowsWhileAFaultIsKept();
        faultIsKeptAcrossCalls();
        faultsOneAfterTheOther();
        CHECK.end();
    }

    private static HallCommutator driven(int mode, int stall) {
        HallCommutator x = Motors.quick(mode);
        x.setStall(stall);
        return x;
    }

    private static void edges(HallCommutator x, int direction, int steps) {
        x.spin(direction, 1, steps);
        x.run(steps);
    }

    private static void faultDue(String when, HallCommutator x, String want) {
        CHECK.due("fault " + when, Motors.faultOf(x), want);
    }

    /** The pulse is that of a new object, so its counter is the tick modulo 10. */
    private static void timesDue(String when, HallCommutator x, int tick, int stall, int... times) {
        CHECK.due("digest() with the times " + when, x.digest(), new Parts(x, tick, 4).filter(1).stall(stall)
            .pulse(10, 50, tick % 10).times(times[0], times[1], times[2]).digest());
    }

    /** "increases by 1 with another one; if it is 3 then, the fault 2 (reversal) occurs". */
    private static void thirdWrongEdge() {
        for (int mode = 1; mode <= 2; mode++) {
            int wrong = mode == 1 ? -1 : 1;
            HallCommutator x = driven(mode, 500);
            edges(x, wrong, 2);
            faultDue("after 2 wrong edges", x, NO_FAULT);
            timesDue("after 2 wrong edges", x, 2, 500, 2, 0, 0);
            edges(x, wrong, 1);
            faultDue("after 3 wrong edges", x, "2 at 3 detail 3");
            timesDue("after 3 wrong edges", x, 3, 500, 0, 0, 0);
            CHECK.due("mode()", x.mode(), 0);
            CHECK.due("position()", x.position(), 3 * wrong);
            CHECK.due("counts", Motors.countsOf(x), "0 0 3 1");
        }
    }

    /** "becomes 0 with an edge in the direction of the mode". */
    private static void rightEdgeEndsTheRow() {
        for (int mode = 1; mode <= 2; mode++) {
            int wrong = mode == 1 ? -1 : 1;
            HallCommutator x = driven(mode, 500);
            for (int i = 0; i < 5; i++) {
                edges(x, wrong, 2);
                edges(x, -wrong, 1);
            }
            faultDue("after 2 wrong, 1 right, five times", x, NO_FAULT);
            timesDue("after a right edge", x, 15, 500, 0, 0, 0);
            edges(x, -wrong, 30);
            faultDue("after right edges alone", x, NO_FAULT);
        }
    }

    /** "wrong edges in a row": a skip or an illegal code is no edge, so the row goes on across them. */
    private static void wrongEdgesAcrossSkipsAndIllegalCodes() {
        HallCommutator x = driven(1, 500);
        edges(x, -1, 1);
        Motors.come(x, 1, 2);
        edges(x, -1, 1);
        Motors.come(x, 1, 7);
        Motors.come(x, 1, 6);
        timesDue("across a skip and an illegal code", x, 5, 500, 2, 0, 1);
        edges(x, -1, 1);
        faultDue("at the third wrong edge", x, "2 at 6 detail 2");
    }

    /** "In mode 1 or 2, the number of wrong edges [..]": nothing is counted in the others. */
    private static void wrongEdgesOnlyInModesOneAndTwo() {
        for (int mode : new int[] {0, 3, 4}) {
            HallCommutator x = driven(mode, 500);
            edges(x, -1, 9);
            edges(x, 1, 9);
            timesDue("in mode " + mode, x, 18, 500, 0, 0, 0);
            x.setMode(1);
            edges(x, -1, 2);
            faultDue("2 wrong edges after mode " + mode, x, NO_FAULT);
        }
    }

    /** "if it is 20, the fault 1 (sensors) occurs": the tick of the acceptance is the first of them. */
    private static void twentiethIllegalTick() {
        for (int mode = 1; mode <= 2; mode++) {
            for (int code : new int[] {0, 7}) {
                HallCommutator x = driven(mode, 500);
                Motors.come(x, 1, code);
                timesDue("at the illegal code", x, 1, 500, 0, 1, 0);
                x.run(18);
                timesDue("after 19 illegal ticks", x, 19, 500, 0, 19, 0);
                CHECK.due("mode()", x.mode(), mode);
                faultDue("after 19 illegal ticks", x, NO_FAULT);
                x.run(1);
                faultDue("after 20 illegal ticks", x, "1 at 20 detail " + code);
                timesDue("after 20 illegal ticks", x, 20, 500, 0, 0, 0);
                CHECK.due("mode()", x.mode(), 0);
            }
        }
    }

    /** "if the filtered code is illegal, the illegal time increases by 1": also across two of them. */
    private static void illegalTimeOfTwoCodes() {
        HallCommutator x = driven(1, 500);
        Motors.come(x, 1, 0);
        x.run(9);
        Motors.come(x, 1, 7);
        x.run(8);
        timesDue("after 19 ticks of two codes", x, 19, 500, 0, 19, 0);
        x.run(1);
        faultDue("after 20 ticks of two codes", x, "1 at 20 detail 7");
    }

    /** "otherwise it becomes 0". */
    private static void legalCodeEndsTheIllegalTime() {
        HallCommutator x = driven(1, 500);
        Motors.come(x, 1, 7);
        x.run(18);
        Motors.come(x, 1, 1);
        timesDue("after a legal code at the twentieth tick", x, 20, 500, 0, 0, 1);
        Motors.come(x, 1, 7);
        x.run(18);
        faultDue("after 19 more", x, NO_FAULT);
        x.run(1);
        faultDue("after 20 more", x, "1 at 40 detail 7");
    }

    /** "the filtered code for fault 1": not the raw code. */
    private static void detailIsTheFilteredCode() {
        HallCommutator x = new HallCommutator();
        x.setMode(1);
        x.schedule(1, 7);
        x.schedule(22, 0);
        x.run(22);
        CHECK.due("the raw code", x.sensors(0), 0);
        faultDue("with another raw code", x, "1 at 22 detail 7");
    }

    /** "In other modes both times are 0." */
    private static void illegalTimeOnlyInModesOneAndTwo() {
        for (int mode : new int[] {0, 3, 4}) {
            HallCommutator x = driven(mode, 500);
            Motors.come(x, 1, 7);
            x.run(99);
            timesDue("in mode " + mode, x, 100, 500, 0, 0, 0);
            x.setMode(2);
            x.run(19);
            faultDue("19 ticks after mode " + mode, x, NO_FAULT);
            x.run(1);
            faultDue("20 ticks after mode " + mode, x, "1 at 120 detail 7");
        }
    }

    /** "if it is equal to the stall time then [..], the fault 3 (stall) occurs". */
    private static void everyShortStallTime() {
        for (int stall = 10; stall <= 60; stall++) {
            for (int mode = 1; mode <= 2; mode++) {
                HallCommutator x = driven(mode, stall);
                x.run(stall - 1);
                faultDue("a tick before " + stall, x, NO_FAULT);
                CHECK.due("mode()", x.mode(), mode);
                x.run(1);
                faultDue("at " + stall, x, "3 at " + stall + " detail 0");
                CHECK.due("mode()", x.mode(), 0);
            }
        }
    }

    /** "The stall time is 10 to 100000 ticks, initially 500." */
    private static void shortestAndLongestStallTime() {
        HallCommutator x = Motors.quick(1);
        x.run(499);
        faultDue("499 ticks of a new object", x, NO_FAULT);
        x.run(1);
        faultDue("500 ticks of a new object", x, "3 at 500 detail 0");
        HallCommutator y = driven(1, 100000);
        Motors.runLong(y, 99999);
        faultDue("99999 ticks", y, NO_FAULT);
        timesDue("after 99999 ticks", y, 99999, 100000, 0, 0, 99999);
        y.run(1);
        faultDue("100000 ticks", y, "3 at 100000 detail 0");
    }

    /** "(or greater)": the stall time is set to the idle time, above and below it. */
    private static void stallTimeLowered() {
        int[][] cases = {{10, 101}, {99, 101}, {100, 101}, {101, 101}, {102, 102}, {110, 110}};
        for (int[] c : cases) {
            HallCommutator x = driven(1, 500);
            x.run(100);
            x.setStall(c[0]);
            faultDue("at setStall(" + c[0] + ")", x, NO_FAULT);
            x.run(c[1] - 101);
            faultDue("a tick before, stall time " + c[0], x, NO_FAULT);
            x.run(1);
            faultDue("then, stall time " + c[0], x, "3 at " + c[1] + " detail 0");
        }
    }

    private static void stallTimeRaised() {
        HallCommutator x = driven(1, 10);
        x.run(9);
        x.setStall(20);
        x.run(10);
        faultDue("19 ticks", x, NO_FAULT);
        x.run(1);
        faultDue("20 ticks", x, "3 at 20 detail 0");
    }

    /** "or becomes 0 if [..] there was an edge at this tick", a wrong edge too. */
    private static void edgeAtTheTickOfTheStall() {
        for (int direction : new int[] {1, -1}) {
            HallCommutator x = driven(1, 10);
            x.spin(direction, 10, 1);
            x.run(10);
            faultDue("with an edge at tick 10", x, NO_FAULT);
            timesDue("with an edge at tick 10", x, 10, 10, direction == 1 ? 0 : 1, 0, 0);
            x.run(9);
            faultDue("9 ticks later", x, NO_FAULT);
            x.run(1);
            faultDue("10 ticks later", x, "3 at 20 detail " + direction);
            HallCommutator y = driven(1, 10);
            y.spin(direction, 11, 1);
            y.run(11);
            faultDue("with an edge at tick 11", y, "3 at 10 detail 0");
        }
    }

    private static void skipIsNoEdge() {
        HallCommutator x = driven(1, 10);
        x.schedule(5, 6);
        x.schedule(10, 1);
        x.run(9);
        CHECK.due("digest() across a skip", x.digest(), new Parts(x, 9, 4).filter(1).stall(10)
            .pulse(10, 50, 9).times(0, 0, 9).waiting(10, 1).digest());
        x.run(1);
        faultDue("with a skip at tick 10", x, "3 at 10 detail 0");
        CHECK.due("counts", Motors.countsOf(x), "0 2 0 1");
    }

    /** "or becomes 0 if the duty is 0". */
    private static void noDutyNoIdleTime() {
        HallCommutator x = driven(1, 10);
        x.run(9);
        x.setPulse(10, 0);
        x.run(1);
        CHECK.due("digest() with the idle time 0", x.digest(),
            new Parts(x, 10, 4).filter(1).stall(10).pulse(10, 0, 0).digest());
        x.run(5000);
        faultDue("without duty", x, NO_FAULT);
        x.setPulse(10, 50);
        x.run(9);
        faultDue("9 ticks with duty", x, NO_FAULT);
        x.run(1);
        faultDue("10 ticks with duty", x, "3 at 5020 detail 0");
    }

    /** "if the duty is 0": a duty of 1 percent is none of that, though the pulse is never on. */
    private static void anyDutyIsEnough() {
        HallCommutator x = driven(1, 10);
        x.setPulse(4, 1);
        x.run(10);
        CHECK.due("high ticks", x.onTicks(0, true), 0);
        faultDue("with a duty of 1 percent", x, "3 at 10 detail 0");
    }

    /** "While the filtered code is illegal, the idle time does not change": with a duty of 0 neither. */
    private static void illegalCodeHoldsTheIdleTime() {
        HallCommutator x = driven(1, 10);
        x.run(9);
        Motors.come(x, 1, 7);
        timesDue("at the illegal code", x, 10, 10, 0, 1, 9);
        x.setPulse(10, 0);
        x.run(5);
        CHECK.due("digest() with a duty of 0", x.digest(),
            new Parts(x, 15, 4).filter(1).stall(10).pulse(10, 0, 5).times(0, 6, 9).digest());
        x.setPulse(10, 50);
        x.run(5);
        timesDue("at the end of the illegal code", x, 20, 10, 0, 11, 9);
        Motors.come(x, 1, 2);
        faultDue("at the legal code", x, "3 at 21 detail 0");
    }

    /** The legal code behind an illegal one is no edge, so its tick is an idle one. */
    private static void tickOfTheLegalCodeIsIdle() {
        HallCommutator x = driven(1, 10);
        x.run(3);
        Motors.come(x, 1, 0);
        Motors.come(x, 1, 3);
        timesDue("at the legal code", x, 5, 10, 0, 0, 4);
    }

    private static void idleTimeOnlyInModesOneAndTwo() {
        for (int mode : new int[] {0, 3, 4}) {
            HallCommutator x = driven(mode, 10);
            x.run(0);
            x.run(100);
            timesDue("in mode " + mode, x, 100, 10, 0, 0, 0);
            faultDue("in mode " + mode, x, NO_FAULT);
            x.setMode(2);
            x.run(9);
            faultDue("9 ticks after mode " + mode, x, NO_FAULT);
            x.run(1);
            faultDue("10 ticks after mode " + mode, x, "3 at 110 detail 0");
        }
    }

    /** "the position for fault 3". */
    private static void detailOfAStallBelowZero() {
        HallCommutator x = driven(2, 10);
        edges(x, -1, 7);
        x.run(10);
        faultDue("at position -7", x, "3 at 17 detail -7");
    }

    /** "At most one fault occurs at a tick: after fault 2, step 4 is done in mode 0." */
    private static void oneFaultAtATick() {
        HallCommutator x = driven(1, 500);
        x.spin(-1, 20, 3);
        x.run(59);
        x.setStall(10);
        x.run(1);
        faultDue("at a reversal", x, "2 at 60 detail 3");
        CHECK.due("counts", Motors.countsOf(x), "0 0 3 1");
        timesDue("at a reversal", x, 60, 10, 0, 0, 0);
    }

    /** "(and the number of wrong edges in a row, the illegal time and the idle time to 0)". */
    private static void faultClearsAllTimes() {
        HallCommutator x = driven(1, 30);
        edges(x, -1, 2);
        x.run(3);
        Motors.come(x, 1, 7);
        x.run(18);
        timesDue("before the fault", x, 24, 30, 2, 19, 3);
        x.run(1);
        faultDue("then", x, "1 at 25 detail 7");
        timesDue("then", x, 25, 30, 0, 0, 0);
        Motors.come(x, 1, 4);
        x.clearFault();
        x.setMode(1);
        edges(x, -1, 2);
        faultDue("2 wrong edges after it was cleared", x, NO_FAULT);
    }

    /** "A fault sets the mode to 0 at once": step 6 of its tick is done in mode 0. */
    private static void legsAreOffAtTheTickOfAFault() {
        HallCommutator x = driven(1, 10);
        x.setPulse(10, 100);
        x.run(9);
        CHECK.due("legs before", Motors.legsOf(x), "1 -1 0");
        x.run(1);
        CHECK.due("legs then", Motors.legsOf(x), "0 0 0");
        CHECK.due("ticks of the switches", x.onTicks(0, true) + " " + x.onTicks(1, false), "9 9");
        HallCommutator y = driven(1, 500);
        y.setPulse(10, 100);
        edges(y, -1, 2);
        CHECK.due("legs before a reversal", y.leg(0) + y.leg(1) + y.leg(2) == 0 && y.leg(2) != 0, true);
        edges(y, -1, 1);
        CHECK.due("legs at a reversal", Motors.legsOf(y), "0 0 0");
    }

    /** A fault that is kept leaves the mode at 0, so that no other one can replace it. */
    private static void nothingFollowsWhileAFaultIsKept() {
        HallCommutator x = driven(1, 10);
        x.run(10);
        edges(x, -1, 9);
        Motors.come(x, 1, 7);
        x.run(5000);
        faultDue("long after", x, "3 at 10 detail 0");
        CHECK.due("counts", Motors.countsOf(x), "1 0 9 1");
        CHECK.due("mode()", x.mode(), 0);
        CHECK.due("position()", x.position(), -9);
    }

    /** Only the mode is barred by a fault: all other calls go on. */
    private static void faultIsKeptAcrossCalls() {
        HallCommutator x = driven(1, 10);
        x.run(10);
        CHECK.due("setFilter(2)", x.setFilter(2), 1);
        CHECK.due("setPulse(4, 1)", x.setPulse(4, 1), 50);
        CHECK.due("setDeadTime(3)", x.setDeadTime(3), 2);
        CHECK.due("setStall(11)", x.setStall(11), 10);
        CHECK.due("schedule(1, 3)", x.schedule(1, 3), 1);
        CHECK.due("spin(1, 2, 3)", x.spin(1, 2, 3), 4);
        CHECK.due("run(2)", x.run(2), 12);
        CHECK.due("undo()", x.undo(), 3);
        faultDue("after the calls", x, "3 at 10 detail 0");
    }

    /** "Returns its number" for each fault, and the count of faults goes on. */
    private static void faultsOneAfterTheOther() {
        HallCommutator x = driven(1, 30);
        edges(x, -1, 3);
        CHECK.due("clearFault() of a reversal", x.clearFault(), 2);
        faultDue("cleared", x, NO_FAULT);
        x.setMode(2);
        x.run(30);
        CHECK.due("clearFault() of a stall", x.clearFault(), 3);
        faultDue("cleared", x, NO_FAULT);
        x.setMode(1);
        Motors.come(x, 1, 0);
        x.run(19);
        faultDue("of the sensors", x, "1 at 53 detail 0");
        CHECK.due("clearFault() of the sensors", x.clearFault(), 1);
        faultDue("cleared", x, NO_FAULT);
        CHECK.due("counts", Motors.countsOf(x), "1 0 3 3");
        CHECK.due("mode()", x.mode(), 0);
        CHECK.due("setMode(0)", x.setMode(0), 0);
    }
}
