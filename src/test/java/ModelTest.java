import java.util.Random;

/** Long mixed runs of calls, right and wrong ones, on the class and on the model side by side. */
public final class ModelTest {
    private static final Check CHECK = new Check();
    private static final int RUNS = 500;
    private static final int CALLS = 200;

    private static final int[] ODD = {Integer.MIN_VALUE, -2, -1, 0, 1, 2, 3, 4, 5, 7, 8, 9, 10, 20, 21,
        40, 41, 50, 51, 100, 101, 1000, 1001, 5000, 5001, 100000, 100001, Integer.MAX_VALUE};

    private final Random random;
    private final HallCommutator x = new HallCommutator();
    private final Model model = new Model();
    private final int kind;

    private ModelTest(int seed) {
        random = new Random(seed);
        kind = seed % 4;
    }

    public static void main(String[] args) {
        int[] seen = new int[4];
        for (int seed = 0; seed < RUNS; seed++) {
            ModelTest run = new ModelTest(seed);
            for (int call = 0; call < CALLS; call++) {
                run.step("run " + seed + " call " + call + " ");
                seen[run.model.fault(0)]++;
            }
        }
        for (int number = 0; number < seen.length; number++) {
            CHECK.due("the runs reach fault " + number, seen[number] > 0, true);
        }
        CHECK.end();
    }

    private void step(String where) {
        int choice = random.nextInt(random.nextInt(8) == 0 ? 22 : 11);
        if (choice < 3) {
            setting(where);
        } else if (choice < 6) {
            codes(where);
        } else if (choice < 10) {
            time(where);
        } else if (choice == 10) {
            same(where + "undo()", () -> x.undo(), () -> model.undo());
        } else {
            value(where);
        }
        CHECK.due(where + "digest()", x.digest(), model.digest());
    }

    /** An argument is mostly within its range, at times at or behind an end of some range. */
    private int number(int least, int most) {
        if (random.nextInt(25) == 0) {
            return ODD[random.nextInt(ODD.length)];
        }
        if (random.nextInt(10) == 0) {
            return random.nextBoolean() ? least : most;
        }
        return least + random.nextInt(most - least + 1);
    }

    private void setting(String where) {
        int a = number(1, kind == 0 ? 50 : 4);
        int period = number(4, 100);
        int duty = number(0, 100);
        int dead = number(0, 20);
        int stall = number(10, kind == 1 ? 100000 : 60);
        int mode = number(0, random.nextBoolean() ? 2 : 4);
        switch (random.nextInt(8)) {
            case 0:
                same(where + "setFilter " + a, () -> x.setFilter(a), () -> model.setFilter(a));
                break;
            case 1:
                same(where + "setPulse " + period + " " + duty, () -> x.setPulse(period, duty),
                    () -> model.setPulse(period, duty));
                break;
            case 2:
                same(where + "setDeadTime " + dead, () -> x.setDeadTime(dead), () -> model.setDeadTime(dead));
                break;
            case 3:
                same(where + "setStall " + stall, () -> x.setStall(stall), () -> model.setStall(stall));
                break;
            case 4:
                same(where + "clearFault", () -> x.clearFault(), () -> model.clearFault());
                break;
            default:
                same(where + "setMode " + mode, () -> x.setMode(mode), () -> model.setMode(mode));
        }
    }

    private void codes(String where) {
        int delay = number(1, kind == 2 ? 300 : 12);
        int code = number(0, 7);
        int direction = random.nextInt(20) == 0 ? number(-3, 3) : random.nextBoolean() ? 1 : -1;
        int interval = number(1, kind == 2 ? 60 : 9);
        int steps = number(1, random.nextInt(4) == 0 ? 40 : 8);
        if (random.nextInt(3) == 0) {
            same(where + "schedule " + delay + " " + code, () -> x.schedule(delay, code),
                () -> model.schedule(delay, code));
        } else {
            same(where + "spin " + direction + " " + interval + " " + steps,
                () -> x.spin(direction, interval, steps), () -> model.spin(direction, interval, steps));
        }
    }

    private void time(String where) {
        int ticks = random.nextInt(60) == 0 ? number(0, 5000) : random.nextInt(25);
        same(where + "run " + ticks, () -> x.run(ticks), () -> model.run(ticks));
    }

    private void value(String where) {
        int what = number(-1, 4);
        boolean high = random.nextBoolean();
        switch (random.nextInt(9)) {
            case 0:
                same(where + "sensors " + what, () -> x.sensors(what), () -> model.sensors(what));
                break;
            case 1:
                same(where + "leg " + what, () -> x.leg(what), () -> model.leg(what));
                break;
            case 2:
                same(where + "onTicks " + what, () -> x.onTicks(what, high), () -> model.onTicks(what, high));
                break;
            case 3:
                same(where + "counts " + what, () -> x.counts(what), () -> model.counts(what));
                break;
            case 4:
                same(where + "interval " + what, () -> x.interval(what), () -> model.interval(what));
                break;
            case 5:
                same(where + "fault " + what, () -> x.fault(what), () -> model.fault(what));
                break;
            case 6:
                same(where + "speed", () -> x.speed(), () -> model.speed());
                break;
            case 7:
                same(where + "mode, position", () -> x.mode() + " " + x.position(),
                    () -> model.mode() + " " + model.position());
                break;
            default:
                same(where + "waiting", () -> x.waiting(), () -> model.waiting());
        }
    }

    private static void same(String call, Check.Call got, Check.Call want) {
        CHECK.due(call, Check.outcome(got), Check.outcome(want));
    }
}
