/** Promises 15 to 18: position, counts, interval and speed. */
public final class EdgesTest {
    private static final Check CHECK = new Check();

    public static void main(String[] args) {
        countsRange();
        positionBothWays();
        intervalsKeepTheLatestSix();
        turningBackEmptiesTheList();
        skipsEmptyTheList();
        illegalCodesEmptyTheList();
        sectorAfterAnIllegalCodeIsNoEdge();
        everyStepOfTheSectors();
        speedOfUnevenIntervals();
        CHECK.end();
    }

    private static void counts(HallCommutator x, String when, int illegal, int skips, int edges, int faults) {
        String got = x.counts(0) + " " + x.counts(1) + " " + x.counts(2) + " " + x.counts(3);
        CHECK.due("counts " + when, got, illegal + " " + skips + " " + edges + " " + faults);
    }

    private static void countsRange() {
        HallCommutator x = new HallCommutator();
        counts(x, "of a new object", 0, 0, 0, 0);
        for (int wrong : new int[] {-1, 4, Integer.MIN_VALUE, Integer.MAX_VALUE}) {
            CHECK.illegalArgument(x, "counts(" + wrong + ")", () -> x.counts(wrong));
        }
    }

    private static void positionBothWays() {
        HallCommutator x = Motors.quick(0);
        x.spin(1, 2, 8);
        x.spin(-1, 2, 13);
        x.run(16);
        CHECK.due("position() after 8 forward", x.position(), 8);
        x.run(26);
        CHECK.due("position() after 13 backward", x.position(), -5);
        counts(x, "after 21 edges", 0, 0, 21, 0);
        CHECK.due("speed() backward", x.speed() < 0, true);
    }

    private static void intervalsKeepTheLatestSix() {
        HallCommutator x = Motors.quick(0);
        int[] codes = {3, 2, 6, 4, 5, 1, 3, 2, 6};
        for (int i = 0; i < codes.length; i++) {
            CHECK.outOfBounds(x, "interval behind the end", () -> x.interval(6));
            Motors.come(x, 10 + i, codes[i]);
            int have = Math.min(i, 6);
            CHECK.outOfBounds(x, "interval(" + have + ") after edge " + i, () -> x.interval(have));
            if (have > 0) {
                CHECK.due("the newest after edge " + i, x.interval(have - 1), 10 + i);
                CHECK.due("the oldest after edge " + i, x.interval(0), 10 + i - have + 1);
            }
        }
        for (int i = 0; i < 6; i++) {
            CHECK.due("interval(" + i + ")", x.interval(i), 13 + i);
        }
        for (int wrong : new int[] {-1, 6, Integer.MIN_VALUE, Integer.MAX_VALUE}) {
            CHECK.outOfBounds(x, "interval(" + wrong + ")", () -> x.interval(wrong));
        }
        CHECK.due("speed()", x.speed(), 1000000.0 * 6 / (6.0 * 93));
    }

    private static void turningBackEmptiesTheList() {
        HallCommutator x = Motors.quick(0);
        Motors.come(x, 5, 3);
        Motors.come(x, 5, 2);
        CHECK.due("interval(0)", x.interval(0), 5);
        Motors.come(x, 7, 3);
        CHECK.outOfBounds(x, "interval(0) after turning", () -> x.interval(0));
        CHECK.due("speed() after turning", x.speed(), 0.0);
        Motors.come(x, 9, 1);
        CHECK.due("interval(0) backward", x.interval(0), 9);
        CHECK.due("speed() backward", x.speed(), -1000000.0 / 54.0);
        CHECK.due("position()", x.position(), 0);
        counts(x, "after turning", 0, 0, 4, 0);
    }

    private static void skipsEmptyTheList() {
        HallCommutator x = Motors.quick(0);
        Motors.come(x, 5, 3);
        Motors.come(x, 5, 2);
        Motors.come(x, 5, 5);
        CHECK.outOfBounds(x, "interval(0) after a skip", () -> x.interval(0));
        CHECK.due("the sector after a skip", x.sensors(2), 5);
        CHECK.due("position() after a skip", x.position(), 2);
        counts(x, "after a skip", 0, 1, 2, 0);
        Motors.come(x, 5, 1);
        CHECK.outOfBounds(x, "no latest edge after a skip", () -> x.interval(0));
        Motors.come(x, 4, 3);
        CHECK.due("interval(0)", x.interval(0), 4);
        Motors.come(x, 5, 6);
        Motors.come(x, 5, 2);
        CHECK.outOfBounds(x, "nor a backward one", () -> x.interval(0));
    }

    private static void illegalCodesEmptyTheList() {
        HallCommutator x = Motors.quick(0);
        Motors.come(x, 5, 3);
        Motors.come(x, 5, 2);
        Motors.come(x, 5, 7);
        CHECK.outOfBounds(x, "interval(0) after an illegal code", () -> x.interval(0));
        CHECK.due("speed()", x.speed(), 0.0);
        Motors.come(x, 5, 2);
        Motors.come(x, 5, 6);
        CHECK.outOfBounds(x, "no latest edge after an illegal code", () -> x.interval(0));
        counts(x, "after an illegal code", 1, 0, 3, 0);
    }

    private static void sectorAfterAnIllegalCodeIsNoEdge() {
        HallCommutator x = Motors.quick(0);
        int[] codes = {3, 6, 5};
        for (int code : codes) {
            Motors.come(x, 1, 0);
            Motors.come(x, 1, code);
        }
        CHECK.due("position()", x.position(), 0);
        CHECK.due("sensors(2)", x.sensors(2), 5);
        counts(x, "after three illegal codes", 3, 0, 0, 0);
        Motors.come(x, 1, 7);
        Motors.come(x, 1, 0);
        counts(x, "after five illegal codes", 5, 0, 0, 0);
    }

    private static void everyStepOfTheSectors() {
        int[] codes = {1, 3, 2, 6, 4, 5};
        int[] turned = {0, 1, 0, 0, 0, -1};
        int[] skipped = {0, 0, 1, 1, 1, 0};
        for (int r = 0; r < 6; r++) {
            for (int d = 0; d < 6; d++) {
                HallCommutator x = Motors.quick(0);
                Motors.come(x, 1, 0);
                Motors.come(x, 1, codes[r]);
                Motors.come(x, 1, codes[(r + d) % 6]);
                String step = "from sector " + r + " by " + d;
                CHECK.due("position() " + step, x.position(), turned[d]);
                CHECK.due("sensors(2) " + step, x.sensors(2), (r + d) % 6);
                counts(x, step, 1, skipped[d], turned[d] * turned[d], 0);
            }
        }
    }

    private static void speedOfUnevenIntervals() {
        HallCommutator x = Motors.quick(0);
        Motors.come(x, 1, 5);
        Motors.come(x, 3, 4);
        Motors.come(x, 4, 6);
        CHECK.due("speed()", x.speed(), -1 * (1000000.0 * 2.0) / (6.0 * 7.0));
        Motors.come(x, 1, 2);
        CHECK.due("speed()", x.speed(), -62500.0);
        HallCommutator y = Motors.quick(0);
        y.setPulse(10, 0);
        Motors.come(y, 1, 3);
        for (int i = 0; i < 20; i++) {
            y.run(5000);
        }
        Motors.come(y, 1, 2);
        CHECK.due("a long interval", y.interval(0), 100001);
        CHECK.due("speed()", y.speed(), 1000000.0 / 600006.0);
    }
}
