/**
 * "A call that throws an exception changes nothing. If several exceptions apply, the one that is listed
 * first is thrown." Every call with an argument out of its range, and every call that the state refuses,
 * in every scene: beside a twin without the call, the digests agree at once, while running on, and while
 * undoing, so that neither what the digest leaves out nor the saved states changed.
 */
public final class BoundaryRefusalTest {
    private static final Check CHECK = new Check();
    private static final String ARGUMENT = "throws java.lang.IllegalArgumentException";
    private static final String STATE = "throws java.lang.IllegalStateException";
    private static final String INDEX = "throws java.lang.IndexOutOfBoundsException";
    private static final int LEAST = Integer.MIN_VALUE;
    private static final int MOST = Integer.MAX_VALUE;

    /** A call on the object that it is given. */
    private interface Deed {
        Object on(HallCommutator x);
    }

    public static void main(String[] args) {
        for (Motors.Scene scene : Motors.Scene.values()) {
            settings(scene);
            modes(scene);
            schedules(scene);
            spins(scene);
            runs(scene);
            values(scene);
            legs(scene);
            intervals(scene);
        }
        faultBarsTheMode();
        noFaultToClear();
        fortyWait();
        spinBeyondForty();
        spinFromAnIllegalCode();
        nothingToUndo();
        CHECK.end();
    }

    private static void refused(Motors.Scene scene, String call, String want, Deed deed) {
        String label = scene + " " + call;
        HallCommutator told = scene.make();
        HallCommutator plain = scene.make();
        CHECK.due(label, Check.outcome(() -> deed.on(told)), want);
        CHECK.due("digest() after " + label, told.digest(), plain.digest());
        goOn(label, told, plain);
        HallCommutator undone = scene.make();
        HallCommutator plainUndone = scene.make();
        Check.outcome(() -> deed.on(undone));
        goBack(label, undone, plainUndone);
        goOn("undone " + label, undone, plainUndone);
    }

    private static void goOn(String label, HallCommutator a, HallCommutator b) {
        for (int i = 0; i < 30; i++) {
            int mode = 1 + i / 4 % 4;
            CHECK.due("setMode after " + label, Check.outcome(() -> a.setMode(mode)),
                Check.outcome(() -> b.setMode(mode)));
            a.run(1);
            b.run(1);
            CHECK.due("digest() " + i + " ticks after " + label, a.digest(), b.digest());
            CHECK.due("speed() " + i + " ticks after " + label, a.speed(), b.speed());
        }
    }

    private static void goBack(String label, HallCommutator a, HallCommutator b) {
        for (int i = 1; i <= 5; i++) {
            CHECK.due("undo() " + i + " after " + label, Check.outcome(() -> a.undo()),
                Check.outcome(() -> b.undo()));
            CHECK.due("digest() after undo() " + i + " after " + label, a.digest(), b.digest());
        }
    }

    /** "Throws IllegalArgumentException if ticks is out of range": 1 to 50, 0 to 20, 10 to 100000. */
    private static void settings(Motors.Scene scene) {
        for (int v : new int[] {0, 51, -1, LEAST, MOST}) {
            refused(scene, "setFilter(" + v + ")", ARGUMENT, x -> x.setFilter(v));
        }
        for (int v : new int[] {3, 101, 0, -4, LEAST, MOST}) {
            refused(scene, "setPulse(" + v + ", 50)", ARGUMENT, x -> x.setPulse(v, 50));
            refused(scene, "setPulse(" + v + ", -1)", ARGUMENT, x -> x.setPulse(v, -1));
        }
        for (int v : new int[] {-1, 101, LEAST, MOST}) {
            refused(scene, "setPulse(4, " + v + ")", ARGUMENT, x -> x.setPulse(4, v));
        }
        for (int v : new int[] {-1, 21, LEAST, MOST}) {
            refused(scene, "setDeadTime(" + v + ")", ARGUMENT, x -> x.setDeadTime(v));
        }
        for (int v : new int[] {9, 100001, 0, -10, LEAST, MOST}) {
            refused(scene, "setStall(" + v + ")", ARGUMENT, x -> x.setStall(v));
        }
    }

    /** "Throws IllegalArgumentException if mode is out of range", before a fault that is kept. */
    private static void modes(Motors.Scene scene) {
        for (int v : new int[] {-1, 5, LEAST, MOST}) {
            refused(scene, "setMode(" + v + ")", ARGUMENT, x -> x.setMode(v));
        }
    }

    /** A wrong argument of schedule comes before the codes that are waiting. */
    private static void schedules(Motors.Scene scene) {
        for (int v : new int[] {0, -1, 100001, LEAST, MOST}) {
            refused(scene, "schedule(" + v + ", 1)", ARGUMENT, x -> x.schedule(v, 1));
            refused(scene, "schedule(" + v + ", 8)", ARGUMENT, x -> x.schedule(v, 8));
        }
        for (int v : new int[] {-1, 8, LEAST, MOST}) {
            refused(scene, "schedule(1, " + v + ")", ARGUMENT, x -> x.schedule(1, v));
        }
    }

    /** A wrong argument of spin comes before the codes that are waiting and the code to start from. */
    private static void spins(Motors.Scene scene) {
        for (int v : new int[] {0, 2, -2, LEAST, MOST}) {
            refused(scene, "spin(" + v + ", 1, 1)", ARGUMENT, x -> x.spin(v, 1, 1));
        }
        for (int v : new int[] {0, -1, 1001, LEAST, MOST}) {
            refused(scene, "spin(1, " + v + ", 1)", ARGUMENT, x -> x.spin(1, v, 1));
        }
        for (int v : new int[] {0, -1, 41, LEAST, MOST}) {
            refused(scene, "spin(-1, 1, " + v + ")", ARGUMENT, x -> x.spin(-1, 1, v));
        }
    }

    private static void runs(Motors.Scene scene) {
        for (int v : new int[] {-1, 5001, LEAST, MOST}) {
            refused(scene, "run(" + v + ")", ARGUMENT, x -> x.run(v));
        }
    }

    /** "Throws IllegalArgumentException if what is out of range": sensors, counts and fault. */
    private static void values(Motors.Scene scene) {
        for (int v : new int[] {-1, 4, LEAST, MOST}) {
            refused(scene, "sensors(" + v + ")", ARGUMENT, x -> x.sensors(v));
            refused(scene, "counts(" + v + ")", ARGUMENT, x -> x.counts(v));
        }
        for (int v : new int[] {-1, 3, LEAST, MOST}) {
            refused(scene, "fault(" + v + ")", ARGUMENT, x -> x.fault(v));
        }
    }

    /** "Throws IndexOutOfBoundsException if there is no such leg". */
    private static void legs(Motors.Scene scene) {
        for (int v : new int[] {-1, 3, LEAST, MOST}) {
            refused(scene, "leg(" + v + ")", INDEX, x -> x.leg(v));
            refused(scene, "onTicks(" + v + ", true)", INDEX, x -> x.onTicks(v, true));
            refused(scene, "onTicks(" + v + ", false)", INDEX, x -> x.onTicks(v, false));
        }
    }

    /** "Throws IndexOutOfBoundsException if the list has no such index". */
    private static void intervals(Motors.Scene scene) {
        for (int v : new int[] {-1, 6, LEAST, MOST}) {
            refused(scene, "interval(" + v + ")", INDEX, x -> x.interval(v));
        }
        int size = intervalsOf(scene);
        refused(scene, "interval(" + size + ")", INDEX, x -> x.interval(size));
        if (size > 0) {
            CHECK.due(scene + " interval(" + (size - 1) + ") is there",
                Check.outcome(() -> scene.make().interval(size - 1)) instanceof Integer, true);
        }
    }

    private static int intervalsOf(Motors.Scene scene) {
        switch (scene) {
            case BUSY:
            case FAULTY:
                return 1;
            case UNDONE:
                return 2;
            default:
                return 0;
        }
    }

    /** "While a fault is kept, the mode cannot be set", not even to the mode that it is. */
    private static void faultBarsTheMode() {
        for (int v = 0; v <= 4; v++) {
            int mode = v;
            refused(Motors.Scene.FAULTY, "setMode(" + mode + ")", STATE, x -> x.setMode(mode));
        }
    }

    /** "Throws IllegalStateException if no fault is kept". */
    private static void noFaultToClear() {
        for (Motors.Scene scene : Motors.Scene.values()) {
            if (scene != Motors.Scene.FAULTY) {
                refused(scene, "clearFault()", STATE, x -> x.clearFault());
            }
        }
    }

    /** "Throws IllegalStateException if 40 codes are waiting". */
    private static void fortyWait() {
        CHECK.due("FULL waiting()", Motors.Scene.FULL.make().waiting(), 40);
        refused(Motors.Scene.FULL, "schedule(1, 0)", STATE, x -> x.schedule(1, 0));
        refused(Motors.Scene.FULL, "schedule(100000, 7)", STATE, x -> x.schedule(100000, 7));
    }

    /** "Throws IllegalStateException if more than 40 codes would be waiting": none of them is scheduled. */
    private static void spinBeyondForty() {
        refused(Motors.Scene.FULL, "spin(1, 1, 1)", STATE, x -> x.spin(1, 1, 1));
        refused(Motors.Scene.FULL, "spin(-1, 1000, 40)", STATE, x -> x.spin(-1, 1000, 40));
        int waiting = Motors.Scene.BUSY.make().waiting();
        CHECK.due("BUSY waiting()", waiting, 2);
        refused(Motors.Scene.BUSY, "spin(1, 1, 39)", STATE, x -> x.spin(1, 1, 39));
        refused(Motors.Scene.BUSY, "spin(1, 1, 40)", STATE, x -> x.spin(1, 1, 40));
        refused(Motors.Scene.BLIND_AHEAD, "spin(1, 1, 40)", STATE, x -> x.spin(1, 1, 40));
    }

    /** "Throws IllegalStateException if [..] the code to start from is illegal". */
    private static void spinFromAnIllegalCode() {
        CHECK.due("BLIND waiting()", Motors.Scene.BLIND.make().waiting(), 0);
        for (int v : new int[] {-1, 1}) {
            refused(Motors.Scene.BLIND, "spin(" + v + ", 1, 1)", STATE, x -> x.spin(v, 1, 1));
            refused(Motors.Scene.BLIND, "spin(" + v + ", 1000, 40)", STATE, x -> x.spin(v, 1000, 40));
            refused(Motors.Scene.BLIND_AHEAD, "spin(" + v + ", 1, 1)", STATE, x -> x.spin(v, 1, 1));
        }
    }

    /** "Throws IllegalStateException if there is no saved state". */
    private static void nothingToUndo() {
        refused(Motors.Scene.NEW, "undo()", STATE, x -> x.undo());
        refused(Motors.Scene.UNDONE, "undo()", STATE, x -> x.undo());
    }
}
