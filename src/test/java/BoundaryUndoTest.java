/** The boundary cases of the saved states: "Undo" in the description, and promise 21. */
public final class BoundaryUndoTest {
    private static final Check CHECK = new Check();
    private static final String NOTHING_SAVED = "throws java.lang.IllegalStateException";

    public static void main(String[] args) {
        eachUndoableCallSavesOnce();
        callsThatChangeNothingSave();
        valuesSaveNothing();
        fourStatesAtMost();
        oldestIsDroppedFirst();
        undoIsNotUndoable();
        savingGoesOnAfterUndo();
        undoToTheBeginning();
        settingsComeBack();
        modeAndTimesComeBack();
        faultsComeAndGo();
        waitingCodesComeBackInTheirOrder();
        fullQueueComesBack();
        candidateCodeComesBack();
        latestEdgeComesBack();
        noLatestEdgeComesBack();
        intervalsComeBack();
        pulseCounterComesBack();
        dropsOfTheDeadTimeComeBack();
        olderDeadTimeComesBack();
        countsComeBack();
        objectsDoNotShareStates();
        CHECK.end();
    }

    /** The answers of undo() until it is refused tell how many states were saved. */
    private static int savedBy(Check.Call call, HallCommutator x) {
        undoAll(x);
        call.answer();
        return undoAll(x);
    }

    private static int undoAll(HallCommutator x) {
        int undone = 0;
        while (undone < 6 && Check.outcome(() -> x.undo()) instanceof Integer) {
            undone++;
        }
        return undone;
    }

    /** "Each successful call of a method whose description says "undoable" saves the state". */
    private static void eachUndoableCallSavesOnce() {
        HallCommutator x = new HallCommutator();
        CHECK.due("saved by setFilter", savedBy(() -> x.setFilter(9), x), 1);
        CHECK.due("saved by setPulse", savedBy(() -> x.setPulse(9, 9), x), 1);
        CHECK.due("saved by setDeadTime", savedBy(() -> x.setDeadTime(9), x), 1);
        CHECK.due("saved by setStall", savedBy(() -> x.setStall(99), x), 1);
        CHECK.due("saved by setMode", savedBy(() -> x.setMode(3), x), 1);
        CHECK.due("saved by schedule", savedBy(() -> x.schedule(9, 3), x), 1);
        CHECK.due("saved by spin", savedBy(() -> x.spin(-1, 9, 40), x), 1);
        CHECK.due("saved by run", savedBy(() -> x.run(5000), x), 1);
        CHECK.due("digest() after them all", x.digest(), new HallCommutator().digest());
        HallCommutator y = faulty();
        y.clearFault();
        CHECK.due("undo() of clearFault", y.undo(), 3);
        CHECK.due("the fault", y.fault(0), 3);
    }

    private static HallCommutator faulty() {
        HallCommutator x = new HallCommutator();
        x.setStall(10);
        x.setMode(1);
        x.run(10);
        return x;
    }

    /** "even if the call changes nothing". */
    private static void callsThatChangeNothingSave() {
        HallCommutator x = new HallCommutator();
        CHECK.due("saved by setFilter(3)", savedBy(() -> x.setFilter(3), x), 1);
        CHECK.due("saved by setPulse(10, 50)", savedBy(() -> x.setPulse(10, 50), x), 1);
        CHECK.due("saved by setDeadTime(2)", savedBy(() -> x.setDeadTime(2), x), 1);
        CHECK.due("saved by setStall(500)", savedBy(() -> x.setStall(500), x), 1);
        CHECK.due("saved by setMode(0)", savedBy(() -> x.setMode(0), x), 1);
        CHECK.due("saved by run(0)", savedBy(() -> x.run(0), x), 1);
        x.run(0);
        CHECK.due("digest() after run(0)", x.digest(), new Parts(x, 0, 1).digest());
    }

    private static void valuesSaveNothing() {
        HallCommutator x = new HallCommutator();
        Check.Call[] values = {() -> x.sensors(0), () -> x.mode(), () -> x.leg(0), () -> x.onTicks(0, true),
            () -> x.position(), () -> x.counts(0), () -> x.speed(), () -> x.fault(0), () -> x.waiting(),
            () -> x.digest()};
        for (int i = 0; i < values.length; i++) {
            CHECK.due("saved by value " + i, savedBy(values[i], x), 0);
        }
    }

    /** "at most 4 states are saved". */
    private static void fourStatesAtMost() {
        int[] remain = {0, 1, 2, 3, 3, 3, 3};
        for (int calls = 1; calls <= 7; calls++) {
            HallCommutator x = new HallCommutator();
            for (int i = 0; i < calls; i++) {
                x.run(1);
            }
            CHECK.due("digest() after " + calls + " calls", x.digest(),
                new Parts(x, calls, Math.min(calls, 4)).pulse(10, 50, calls).digest());
            CHECK.due("undo() after " + calls + " calls", x.undo(), remain[calls - 1]);
        }
    }

    /** "and the oldest is dropped first". */
    private static void oldestIsDroppedFirst() {
        for (int calls = 1; calls <= 12; calls++) {
            HallCommutator x = new HallCommutator();
            for (int i = 1; i <= calls; i++) {
                x.setStall(100 * i);
            }
            int kept = Math.min(calls, 4);
            for (int i = 1; i <= kept; i++) {
                CHECK.due("undo() " + i + " of " + calls, x.undo(), kept - i);
                int stall = calls - i == 0 ? 500 : 100 * (calls - i);
                CHECK.due("digest() after it", x.digest(), new Parts(x, 0, kept - i).stall(stall).digest());
            }
            CHECK.due("undo() beyond", Check.outcome(() -> x.undo()), NOTHING_SAVED);
        }
    }

    /** "removes it from the saved states": a second undo goes further back, not forth. */
    private static void undoIsNotUndoable() {
        HallCommutator x = new HallCommutator();
        x.run(3);
        x.run(4);
        CHECK.due("undo()", x.undo(), 1);
        CHECK.due("digest() at 3", x.digest(), new Parts(x, 3, 1).pulse(10, 50, 3).digest());
        CHECK.due("undo() again", x.undo(), 0);
        CHECK.due("digest() at 0", x.digest(), new HallCommutator().digest());
        CHECK.due("undo() beyond", Check.outcome(() -> x.undo()), NOTHING_SAVED);
    }

    private static void savingGoesOnAfterUndo() {
        HallCommutator x = new HallCommutator();
        for (int round = 0; round < 9; round++) {
            for (int i = 0; i < 5; i++) {
                x.run(1);
            }
            CHECK.due("undo()", x.undo(), 3);
            CHECK.due("undo()", x.undo(), 2);
            int tick = 3 * (round + 1);
            CHECK.due("digest()", x.digest(), new Parts(x, tick, 2).pulse(10, 50, tick % 10).digest());
        }
        CHECK.due("undo()", x.undo(), 1);
        CHECK.due("undo()", x.undo(), 0);
        CHECK.due("digest() of the oldest", x.digest(), new Parts(x, 25, 0).pulse(10, 50, 5).digest());
    }

    private static void undoToTheBeginning() {
        HallCommutator x = new HallCommutator();
        x.spin(1, 3, 40);
        x.setMode(2);
        x.run(5000);
        x.clearFault();
        for (int i = 3; i >= 0; i--) {
            CHECK.due("undo()", x.undo(), i);
        }
        CHECK.due("digest()", x.digest(), new HallCommutator().digest());
        CHECK.due("speed()", x.speed(), 0.0);
    }

    /** "The saved state contains everything." First the settings, told by what the setters answer. */
    private static void settingsComeBack() {
        HallCommutator x = new HallCommutator();
        x.setFilter(50);
        x.undo();
        CHECK.due("setFilter", x.setFilter(4), 3);
        x.setPulse(100, 100);
        x.undo();
        CHECK.due("setPulse", x.setPulse(5, 40), 50);
        x.setDeadTime(20);
        x.undo();
        CHECK.due("setDeadTime", x.setDeadTime(7), 2);
        x.setStall(100000);
        x.undo();
        CHECK.due("setStall", x.setStall(77), 500);
        x.setMode(4);
        x.undo();
        CHECK.due("setMode", x.setMode(3), 0);
        CHECK.due("digest()", x.digest(),
            new Parts(x, 0, 4).filter(4).pulse(5, 40, 0).deadTime(7).stall(77).digest());
    }

    private static void modeAndTimesComeBack() {
        HallCommutator x = Motors.quick(1);
        x.spin(-1, 1, 2);
        x.run(5);
        Motors.come(x, 1, 7);
        x.run(2);
        long before = x.digest();
        x.setMode(2);
        CHECK.due("digest() in another mode", x.digest(),
            new Parts(x, 8, 4).filter(1).pulse(10, 50, 8).digest());
        x.undo();
        CHECK.due("digest() back", x.digest(), new Parts(x, 8, 3).filter(1).pulse(10, 50, 8).times(2, 3, 3).digest());
        x.run(0);
        CHECK.due("digest() with four states again", x.digest(), before);
    }

    /** A fault goes with the undo of its run, and comes back with the undo of clearFault. */
    private static void faultsComeAndGo() {
        HallCommutator x = faulty();
        CHECK.due("undo() of run", x.undo(), 2);
        CHECK.due("fault", Motors.faultOf(x), "0 at 0 detail 0");
        CHECK.due("counts(3)", x.counts(3), 0);
        CHECK.due("mode()", x.mode(), 1);
        CHECK.due("setMode(1)", x.setMode(1), 1);
        x.run(10);
        CHECK.due("fault again", Motors.faultOf(x), "3 at 10 detail 0");
        CHECK.due("clearFault()", x.clearFault(), 3);
        CHECK.due("setMode(2)", x.setMode(2), 0);
        x.undo();
        x.undo();
        CHECK.due("fault back", Motors.faultOf(x), "3 at 10 detail 0");
        CHECK.illegalState(x, "setMode(0)", () -> x.setMode(0));
    }

    private static void waitingCodesComeBackInTheirOrder() {
        HallCommutator x = new HallCommutator();
        x.schedule(5, 3);
        x.schedule(5, 2);
        x.schedule(4, 6);
        x.schedule(5, 4);
        x.run(5);
        CHECK.due("waiting()", x.waiting() + " raw " + x.sensors(0), "0 raw 4");
        x.undo();
        CHECK.due("digest()", x.digest(), new Parts(x, 0, 3).waiting(4, 6, 5, 3, 5, 2, 5, 4).digest());
        x.undo();
        x.schedule(4, 5);
        CHECK.due("digest()", x.digest(), new Parts(x, 0, 3).waiting(4, 6, 4, 5, 5, 3, 5, 2).digest());
        x.run(5);
        CHECK.due("raw", x.sensors(0), 2);
    }

    private static void fullQueueComesBack() {
        HallCommutator x = new HallCommutator();
        x.spin(1, 1, 40);
        x.run(40);
        CHECK.due("waiting()", x.waiting(), 0);
        x.undo();
        CHECK.due("waiting()", x.waiting(), 40);
        CHECK.illegalState(x, "schedule(1, 1)", () -> x.schedule(1, 1));
        x.undo();
        CHECK.due("waiting()", x.waiting(), 0);
        CHECK.due("spin(1, 1, 40)", x.spin(1, 1, 40), 40);
    }

    /** No call answers the candidate code, but the next tick shows it. */
    private static void candidateCodeComesBack() {
        HallCommutator x = new HallCommutator();
        x.schedule(1, 3);
        x.run(2);
        Motors.come(x, 1, 2);
        x.undo();
        x.undo();
        CHECK.due("sensors", x.sensors(0) + " " + x.sensors(1) + " " + x.sensors(2) + " " + x.sensors(3), "3 1 0 2");
        x.run(1);
        CHECK.due("the old candidate is accepted", x.sensors(1) + " position " + x.position(), "3 position 1");
    }

    private static void latestEdgeComesBack() {
        HallCommutator x = Motors.quick(0);
        Motors.come(x, 1, 3);
        Motors.come(x, 4, 1);
        x.undo();
        x.undo();
        Motors.come(x, 7, 2);
        CHECK.due("the interval since the old edge", x.interval(0), 7);
        CHECK.due("speed()", x.speed(), 1000000.0 / 42.0);
    }

    private static void noLatestEdgeComesBack() {
        HallCommutator x = Motors.quick(0);
        Motors.come(x, 4, 3);
        x.undo();
        Motors.come(x, 6, 5);
        CHECK.outOfBounds(x, "interval(0) of the first edge", () -> x.interval(0));
        HallCommutator y = Motors.quick(0);
        Motors.come(y, 4, 3);
        Motors.come(y, 4, 7);
        y.undo();
        y.undo();
        Motors.come(y, 5, 2);
        CHECK.due("the interval across an undone illegal code", y.interval(0), 5);
    }

    private static void intervalsComeBack() {
        HallCommutator x = Motors.quick(0);
        x.spin(1, 3, 8);
        x.run(24);
        x.spin(1, 5, 4);
        x.run(20);
        CHECK.due("interval(5)", x.interval(2) + " " + x.interval(5), "5 5");
        x.undo();
        for (int i = 0; i < 6; i++) {
            CHECK.due("interval(" + i + ")", x.interval(i), 3);
        }
        x.undo();
        x.undo();
        CHECK.outOfBounds(x, "interval(0)", () -> x.interval(0));
    }

    private static void pulseCounterComesBack() {
        HallCommutator x = new HallCommutator();
        x.setPulse(7, 50);
        x.run(5);
        x.run(3);
        x.undo();
        CHECK.due("digest()", x.digest(), new Parts(x, 5, 2).pulse(7, 50, 5).digest());
    }

    /** The ticks that were undone are no longer among the last Z ticks. */
    private static void dropsOfTheDeadTimeComeBack() {
        for (int mode : new int[] {1, 2}) {
            HallCommutator x = new HallCommutator();
            x.setPulse(4, 100);
            x.setDeadTime(20);
            x.setMode(3 - mode);
            x.run(5);
            x.undo();
            x.setMode(mode);
            x.run(1);
            CHECK.due("legs", Motors.legsOf(x), mode == 1 ? "1 -1 0" : "-1 1 0");
        }
    }

    private static void olderDeadTimeComesBack() {
        HallCommutator x = new HallCommutator();
        x.setPulse(4, 100);
        x.setDeadTime(5);
        x.setMode(3);
        x.run(1);
        x.setMode(0);
        x.run(3);
        x.setMode(3);
        x.run(10);
        x.undo();
        x.undo();
        x.setMode(1);
        x.run(2);
        CHECK.due("legs 5 ticks after the old low", Motors.legsOf(x), "0 -1 0");
        x.run(1);
        CHECK.due("legs 6 ticks after it", Motors.legsOf(x), "1 -1 0");
    }

    private static void countsComeBack() {
        HallCommutator x = Motors.quick(3);
        x.schedule(1, 3);
        x.schedule(2, 6);
        x.schedule(3, 7);
        x.run(3);
        CHECK.due("counts", Motors.countsOf(x) + " " + x.position() + " " + x.onTicks(2, false), "1 1 1 0 1 3");
        x.undo();
        CHECK.due("counts back", Motors.countsOf(x) + " " + x.position() + " " + x.onTicks(2, false), "0 0 0 0 0 0");
        CHECK.due("legs back", Motors.legsOf(x), "0 0 0");
        CHECK.due("sensors back", x.sensors(0) + " " + x.sensors(1) + " " + x.sensors(2), "1 1 0");
    }

    private static void objectsDoNotShareStates() {
        HallCommutator x = new HallCommutator();
        HallCommutator y = new HallCommutator();
        x.run(3);
        CHECK.illegalState(y, "undo() of the other object", () -> y.undo());
        y.setFilter(9);
        CHECK.due("undo()", x.undo(), 0);
        CHECK.due("digest()", x.digest(), new HallCommutator().digest());
        CHECK.due("digest() of the other", y.digest(), new Parts(y, 0, 1).filter(9).digest());
    }
}
