/** The five examples of the document, call by call, and the one of README.md. */
public final class ExamplesTest {
    private static final Check CHECK = new Check();

    public static void main(String[] args) {
        pulseOfTheFirstSector();
        edgesIntervalsAndSpeed();
        glitchAndIllegalCode();
        stall();
        exceptions();
        readme();
        CHECK.end();
    }

    private static void pulseOfTheFirstSector() {
        HallCommutator x = new HallCommutator();
        CHECK.due("setMode(1)", x.setMode(1), 0);
        CHECK.due("run(1)", x.run(1), 1);
        CHECK.due("leg(0)", x.leg(0), 1);
        CHECK.due("leg(1)", x.leg(1), -1);
        CHECK.due("run(5)", x.run(5), 6);
        CHECK.due("leg(0)", x.leg(0), 0);
    }

    private static void edgesIntervalsAndSpeed() {
        HallCommutator x = new HallCommutator();
        CHECK.due("spin(1, 10, 3)", x.spin(1, 10, 3), 3);
        CHECK.due("run(13)", x.run(13), 13);
        CHECK.due("position()", x.position(), 1);
        CHECK.due("run(10)", x.run(10), 23);
        CHECK.due("position()", x.position(), 2);
        CHECK.due("interval(0)", x.interval(0), 10);
        CHECK.due("speed()", x.speed(), 16666.666666666668);
    }

    private static void glitchAndIllegalCode() {
        HallCommutator x = new HallCommutator();
        CHECK.due("schedule(1, 3)", x.schedule(1, 3), 1);
        CHECK.due("schedule(2, 1)", x.schedule(2, 1), 2);
        CHECK.due("run(5)", x.run(5), 5);
        CHECK.due("sensors(1)", x.sensors(1), 1);
        CHECK.due("schedule(1, 7)", x.schedule(1, 7), 1);
        CHECK.due("run(4)", x.run(4), 9);
        CHECK.due("sensors(2)", x.sensors(2), -1);
        CHECK.due("counts(0)", x.counts(0), 1);
    }

    private static void stall() {
        HallCommutator x = new HallCommutator();
        CHECK.due("setStall(10)", x.setStall(10), 500);
        CHECK.due("setMode(1)", x.setMode(1), 0);
        CHECK.due("run(10)", x.run(10), 10);
        CHECK.due("fault(0)", x.fault(0), 3);
        CHECK.due("fault(1)", x.fault(1), 10);
        CHECK.due("mode()", x.mode(), 0);
        CHECK.illegalState(x, "setMode(1)", () -> x.setMode(1));
    }

    private static void exceptions() {
        HallCommutator x = new HallCommutator();
        CHECK.illegalArgument(x, "setFilter(0)", () -> x.setFilter(0));
        CHECK.illegalState(x, "clearFault()", () -> x.clearFault());
        CHECK.outOfBounds(x, "interval(0)", () -> x.interval(0));
        CHECK.illegalState(x, "undo()", () -> x.undo());
    }

    private static void readme() {
        HallCommutator x = new HallCommutator();
        CHECK.due("spin(1, 10, 12)", x.spin(1, 10, 12), 12);
        CHECK.due("setMode(1)", x.setMode(1), 0);
        CHECK.due("run(100)", x.run(100), 100);
        CHECK.due("position()", x.position(), 9);
        CHECK.due("speed()", x.speed(), 16666.666666666668);
        CHECK.due("leg(0)", x.leg(0), -1);
        CHECK.due("undo()", x.undo(), 2);
    }
}
