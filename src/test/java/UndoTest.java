/** Promise 21: undo, and what each call saves. */
public final class UndoTest {
    private static final Check CHECK = new Check();

    public static void main(String[] args) {
        nothingSaved();
        fourAtMost();
        everyUndoableCall();
        callsThatChangeNothingSaveToo();
        refusedCallsSaveNothing();
        valuesSaveNothing();
        everythingComesBack();
        undoThenOnAnotherWay();
        legsAndIntervalsComeBack();
        CHECK.end();
    }

    private static void nothingSaved() {
        HallCommutator x = new HallCommutator();
        CHECK.illegalState(x, "undo() of a new object", () -> x.undo());
        x.run(1);
        CHECK.due("undo()", x.undo(), 0);
        CHECK.illegalState(x, "undo() once more", () -> x.undo());
        CHECK.due("run(0)", x.run(0), 0);
    }

    private static void fourAtMost() {
        HallCommutator x = new HallCommutator();
        for (int i = 1; i <= 7; i++) {
            x.run(i);
        }
        CHECK.due("undo() 1", x.undo(), 3);
        CHECK.due("undo() 2", x.undo(), 2);
        CHECK.due("undo() 3", x.undo(), 1);
        CHECK.due("undo() 4", x.undo(), 0);
        CHECK.illegalState(x, "undo() 5", () -> x.undo());
        CHECK.due("the tick of the oldest", x.run(0), 6);
    }

    private static HallCommutator busy() {
        HallCommutator x = new HallCommutator();
        x.setFilter(2);
        x.setStall(10);
        x.spin(1, 3, 9);
        x.schedule(90, 7);
        x.setMode(1);
        x.run(50);
        return x;
    }

    private static void everyUndoableCall() {
        HallCommutator x = busy();
        CHECK.due("a fault stands", x.fault(0), 3);
        backAndForth(x, "clearFault", () -> x.clearFault());
        x.clearFault();
        backAndForth(x, "setFilter", () -> x.setFilter(9));
        backAndForth(x, "setPulse", () -> x.setPulse(11, 12));
        backAndForth(x, "setDeadTime", () -> x.setDeadTime(13));
        backAndForth(x, "setStall", () -> x.setStall(14));
        backAndForth(x, "setMode", () -> x.setMode(4));
        backAndForth(x, "schedule", () -> x.schedule(1, 3));
        backAndForth(x, "spin", () -> {
            x.schedule(50, 1);
            return x.spin(-1, 7, 20);
        }, 2);
        backAndForth(x, "run", () -> x.run(100));
    }

    private static void backAndForth(HallCommutator x, String call, Check.Call change) {
        backAndForth(x, call, change, 1);
    }

    /** With room in the history for the calls, undoing them brings the very digest back. */
    private static void backAndForth(HallCommutator x, String call, Check.Call change, int calls) {
        makeRoom(x, calls);
        long before = x.digest();
        change.answer();
        CHECK.due(call + " changes the digest", x.digest() != before, true);
        for (int i = 0; i < calls; i++) {
            x.undo();
        }
        CHECK.due("digest() after undo of " + call, x.digest(), before);
    }

    private static void makeRoom(HallCommutator x, int calls) {
        for (int i = 0; i < calls; i++) {
            x.run(0);
        }
        for (int i = 0; i < calls; i++) {
            x.undo();
        }
    }

    private static void callsThatChangeNothingSaveToo() {
        HallCommutator x = new HallCommutator();
        x.run(0);
        x.setMode(0);
        x.setFilter(3);
        x.setDeadTime(2);
        CHECK.due("undo() 1", x.undo(), 3);
        x.setStall(500);
        CHECK.due("undo() 2", x.undo(), 3);
        x.setPulse(10, 50);
        CHECK.due("undo() 3", x.undo(), 3);
    }

    private static void refusedCallsSaveNothing() {
        HallCommutator x = busy();
        x.undo();
        x.undo();
        Check.Call[] refused = {() -> x.setFilter(0), () -> x.setPulse(3, 0), () -> x.setPulse(10, 101),
            () -> x.setDeadTime(21), () -> x.setStall(9), () -> x.setMode(5), () -> x.clearFault(),
            () -> x.schedule(0, 0), () -> x.spin(0, 1, 1), () -> x.spin(1, 1, 40), () -> x.run(5001),
            () -> x.leg(3), () -> x.interval(9)};
        for (Check.Call call : refused) {
            CHECK.due("a refused call throws", Check.outcome(call).toString().startsWith("throws"), true);
        }
        CHECK.due("undo() after refused calls", x.undo(), 1);
    }

    private static void valuesSaveNothing() {
        HallCommutator x = busy();
        x.undo();
        long before = x.digest();
        x.sensors(0);
        x.mode();
        x.leg(0);
        x.onTicks(0, true);
        x.position();
        x.counts(0);
        x.speed();
        x.fault(0);
        x.waiting();
        CHECK.due("digest() after reading", x.digest(), before);
        CHECK.due("undo()", x.undo(), 2);
    }

    /** Running on after an undo answers what running on without it answers: hidden state came back too. */
    private static void everythingComesBack() {
        for (int at = 0; at < 60; at++) {
            HallCommutator plain = restless(at);
            HallCommutator undone = restless(at);
            undone.setMode(2);
            undone.run(37);
            undone.spin(-1, 2, 3);
            undone.run(41);
            for (int i = 0; i < 4; i++) {
                undone.undo();
            }
            for (int i = 0; i < 4; i++) {
                plain.run(0);
                undone.run(0);
            }
            for (int i = 0; i < 30; i++) {
                plain.run(1);
                undone.run(1);
                CHECK.due("digest() " + i + " ticks after an undo at " + at, undone.digest(), plain.digest());
            }
        }
    }

    private static HallCommutator restless(int ticks) {
        HallCommutator x = new HallCommutator();
        x.setDeadTime(6);
        x.setStall(70);
        x.spin(1, 5, 6);
        x.schedule(33, 4);
        x.schedule(36, 6);
        x.schedule(39, 7);
        x.schedule(44, 6);
        x.setMode(1);
        x.run(ticks);
        return x;
    }

    private static void undoThenOnAnotherWay() {
        HallCommutator x = new HallCommutator();
        x.run(1);
        x.run(2);
        x.run(4);
        x.undo();
        x.run(8);
        x.run(16);
        x.run(32);
        CHECK.due("tick", x.run(0), 1 + 2 + 8 + 16 + 32);
        x.undo();
        x.undo();
        x.undo();
        CHECK.due("undo()", x.undo(), 0);
        CHECK.due("tick of the oldest", x.run(0), 3);
    }

    private static void legsAndIntervalsComeBack() {
        HallCommutator x = new HallCommutator();
        x.setFilter(1);
        x.setPulse(4, 100);
        x.setMode(1);
        x.spin(1, 5, 3);
        x.run(15);
        CHECK.legs(x, "of sector 3", -1, 1, 0);
        CHECK.due("interval(1)", x.interval(1), 5);
        x.spin(-1, 7, 5);
        x.setMode(3);
        x.run(35);
        CHECK.legs(x, "braking", -1, -1, -1);
        CHECK.due("interval(1)", x.interval(1), 7);
        CHECK.due("undo()", x.undo(), 3);
        CHECK.legs(x, "of sector 3 again", -1, 1, 0);
        CHECK.due("interval(0) again", x.interval(0), 5);
        CHECK.due("interval(1) again", x.interval(1), 5);
        CHECK.due("speed() again", x.speed(), 1000000.0 / 30.0);
    }
}
