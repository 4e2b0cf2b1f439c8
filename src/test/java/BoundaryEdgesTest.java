/** The boundary cases of accepted codes, edges, intervals and the speed: step 3 of a tick. */
public final class BoundaryEdgesTest {
    private static final Check CHECK = new Check();

    public static void main(String[] args) {
        sectorsWrapAround();
        everyDifferenceOfSectors();
        illegalAfterIllegalCounts();
        legalAfterIllegalIsNoEdge();
        illegalCodeEmptiesTheList();
        illegalGlitchChangesNothing();
        skipEmptiesTheList();
        skipLeavesNoLatestEdge();
        turningEmptiesTheListAndIsTheLatestEdge();
        firstEdgeHasNoInterval();
        shortestAndLongestInterval();
        listKeepsSix();
        intervalIsFromAcceptedToAccepted();
        intervalsGoOnAcrossModes();
        speedWithoutIntervals();
        speedHasTheSignOfTheLatestEdge();
        speedOfOneToSixIntervals();
        positionBelowZero();
        CHECK.end();
    }

    private static HallCommutator quick() {
        return Motors.quick(0);
    }

    private static void edges(HallCommutator x, int direction, int interval, int steps) {
        x.spin(direction, interval, steps);
        x.run(interval * steps);
    }

    private static String intervalsOf(HallCommutator x) {
        StringBuilder text = new StringBuilder();
        for (int i = 0; i < 8; i++) {
            int index = i;
            Object got = Check.outcome(() -> x.interval(index));
            if (!(got instanceof Integer)) {
                CHECK.due("interval(" + i + ") behind the end", got, "throws java.lang.IndexOutOfBoundsException");
                break;
            }
            text.append(i == 0 ? "" : " ").append(got);
        }
        return text.toString();
    }

    /** "let d = s - r modulo 6": from sector 5 to 0 is forward, from 0 to 5 backward. */
    private static void sectorsWrapAround() {
        HallCommutator x = quick();
        Motors.come(x, 1, 5);
        CHECK.due("0 to 5", x.position() + " sector " + x.sensors(2), "-1 sector 5");
        Motors.come(x, 1, 1);
        CHECK.due("5 to 0", x.position() + " sector " + x.sensors(2), "0 sector 0");
        CHECK.due("counts", Motors.countsOf(x), "0 0 2 0");
        edges(x, 1, 1, 13);
        CHECK.due("13 forward", x.position() + " sector " + x.sensors(2), "13 sector 1");
        edges(x, -1, 1, 27);
        CHECK.due("27 backward", x.position() + " sector " + x.sensors(2), "-14 sector 4");
    }

    /** "If d is 1 or 5, this is an edge"; "If d is 2, 3 or 4, the number of skips increases by 1". */
    private static void everyDifferenceOfSectors() {
        int[] turned = {0, 1, 0, 0, 0, -1};
        String[] counts = {"", "0 0 1 0", "0 1 0 0", "0 1 0 0", "0 1 0 0", "0 0 1 0"};
        for (int r = 0; r < 6; r++) {
            for (int d = 1; d < 6; d++) {
                HallCommutator x = quick();
                x.spin(1, 1, r + 6);
                x.run(r + 6);
                int position = x.position();
                int edges = x.counts(2);
                Motors.come(x, 1, Motors.codeOf(r + d));
                String step = " from " + r + " by " + d;
                CHECK.due("position()" + step, x.position() - position, turned[d]);
                CHECK.due("counts" + step, "0 " + x.counts(1) + " " + (x.counts(2) - edges) + " 0", counts[d]);
                CHECK.due("sector" + step, x.sensors(2), (r + d) % 6);
            }
        }
    }

    /** "an illegal code increases the number of illegal codes by 1", after another illegal one too. */
    private static void illegalAfterIllegalCounts() {
        HallCommutator x = quick();
        Motors.come(x, 1, 0);
        x.run(10);
        CHECK.due("counts while it stays", Motors.countsOf(x), "1 0 0 0");
        Motors.come(x, 1, 7);
        CHECK.due("counts after another", Motors.countsOf(x) + " sector " + x.sensors(2), "2 0 0 0 sector -1");
        Motors.come(x, 1, 0);
        CHECK.due("counts after the third", Motors.countsOf(x), "3 0 0 0");
    }

    /** "If r is NONE, s becomes the sector": no edge and no skip, whatever the sector before was. */
    private static void legalAfterIllegalIsNoEdge() {
        for (int sector = 0; sector < 6; sector++) {
            HallCommutator x = quick();
            Motors.come(x, 1, 7);
            Motors.come(x, 1, Motors.codeOf(sector));
            CHECK.due("sector", x.sensors(2), sector);
            CHECK.due("counts", Motors.countsOf(x) + " position " + x.position(), "1 0 0 0 position 0");
            Motors.come(x, 1, Motors.codeOf(sector + 1));
            CHECK.due("counts of the next edge", Motors.countsOf(x), "1 0 1 0");
            CHECK.due("intervals", intervalsOf(x), "");
        }
    }

    /** "the list of intervals becomes empty, and there is no latest edge" for an illegal code. */
    private static void illegalCodeEmptiesTheList() {
        for (int direction : new int[] {1, -1}) {
            HallCommutator x = quick();
            edges(x, direction, 4, 4);
            CHECK.due("intervals before", intervalsOf(x), "4 4 4");
            Motors.come(x, 4, 0);
            CHECK.due("intervals after", intervalsOf(x), "");
            Motors.come(x, 4, Motors.codeOf(4 * direction));
            edges(x, direction, 5, 1);
            CHECK.due("intervals after the first edge", intervalsOf(x), "");
            edges(x, direction, 6, 1);
            CHECK.due("intervals after the second", intervalsOf(x), "6");
        }
    }

    /** An illegal code that the filter does not accept ends neither the list nor the latest edge. */
    private static void illegalGlitchChangesNothing() {
        HallCommutator x = new HallCommutator();
        x.spin(1, 10, 3);
        x.schedule(23, 7);
        x.schedule(25, 2);
        x.run(33);
        CHECK.due("intervals", intervalsOf(x), "10 10");
        CHECK.due("counts", Motors.countsOf(x), "0 0 3 0");
    }

    /** "If d is 2, 3 or 4, [..] the list of intervals becomes empty". */
    private static void skipEmptiesTheList() {
        for (int d = 2; d <= 4; d++) {
            HallCommutator x = quick();
            edges(x, 1, 4, 3);
            CHECK.due("intervals before a skip by " + d, intervalsOf(x), "4 4");
            Motors.come(x, 4, Motors.codeOf(3 + d));
            CHECK.due("intervals after a skip by " + d, intervalsOf(x), "");
            CHECK.due("speed() after a skip by " + d, x.speed(), 0.0);
            CHECK.due("position() after a skip by " + d, x.position(), 3);
        }
    }

    /** "and there is no latest edge": the next edge, whatever its direction, has no interval. */
    private static void skipLeavesNoLatestEdge() {
        for (int direction : new int[] {1, -1}) {
            HallCommutator x = quick();
            edges(x, direction, 4, 3);
            Motors.come(x, 4, Motors.codeOf(0));
            edges(x, direction, 5, 1);
            CHECK.due("intervals of the first edge", intervalsOf(x), "");
            edges(x, direction, 6, 1);
            CHECK.due("intervals of the second edge", intervalsOf(x), "6");
        }
    }

    /** "otherwise the list becomes empty; this becomes the latest edge". */
    private static void turningEmptiesTheListAndIsTheLatestEdge() {
        for (int direction : new int[] {1, -1}) {
            HallCommutator x = quick();
            edges(x, direction, 4, 3);
            edges(x, -direction, 5, 1);
            CHECK.due("intervals at the turn", intervalsOf(x), "");
            edges(x, -direction, 6, 1);
            CHECK.due("intervals behind the turn", intervalsOf(x), "6");
            edges(x, direction, 7, 1);
            CHECK.due("intervals at the turn back", intervalsOf(x), "");
        }
    }

    /** "if the latest edge exists": the first edge of all has no interval. */
    private static void firstEdgeHasNoInterval() {
        for (int direction : new int[] {1, -1}) {
            HallCommutator x = quick();
            edges(x, direction, 9, 1);
            CHECK.due("intervals", intervalsOf(x), "");
            CHECK.due("counts", Motors.countsOf(x), "0 0 1 0");
        }
    }

    private static void shortestAndLongestInterval() {
        HallCommutator x = quick();
        edges(x, 1, 1, 2);
        CHECK.due("intervals of a tick", intervalsOf(x), "1");
        CHECK.due("speed() of a tick", x.speed(), 1000000.0 / 6.0);
        Motors.runLong(x, 1000000);
        Motors.come(x, 1, 6);
        CHECK.due("intervals", intervalsOf(x), "1 1000001");
        CHECK.due("speed()", x.speed(), 2000000.0 / 6000012.0);
    }

    /** "the list of intervals (which keeps the latest 6)". */
    private static void listKeepsSix() {
        String[] due = {"", "2", "2 3", "2 3 4", "2 3 4 5", "2 3 4 5 6", "2 3 4 5 6 7", "3 4 5 6 7 8",
            "4 5 6 7 8 9"};
        for (int direction : new int[] {1, -1}) {
            HallCommutator x = quick();
            for (int i = 0; i < due.length; i++) {
                edges(x, direction, i + 1, 1);
                CHECK.due("intervals after edge " + (i + 1), intervalsOf(x), due[i]);
            }
        }
    }

    /** "the number of ticks since it": from acceptance to acceptance, also when F changes in between. */
    private static void intervalIsFromAcceptedToAccepted() {
        HallCommutator x = new HallCommutator();
        x.spin(1, 10, 2);
        x.run(15);
        x.setFilter(8);
        x.run(12);
        CHECK.due("intervals, accepted at 12 and 27", intervalsOf(x), "15");
    }

    /** The list and the latest edge stay as the mode changes and as a fault occurs. */
    private static void intervalsGoOnAcrossModes() {
        HallCommutator x = quick();
        for (int mode = 1; mode <= 4; mode++) {
            edges(x, 1, 5, 1);
            x.setMode(mode == 2 ? 0 : mode);
        }
        CHECK.due("intervals across modes", intervalsOf(x), "5 5 5");
        HallCommutator y = Motors.quick(1);
        edges(y, -1, 5, 3);
        CHECK.due("the fault", Motors.faultOf(y), "2 at 15 detail 3");
        edges(y, -1, 6, 1);
        CHECK.due("intervals across a fault", intervalsOf(y), "5 5 6");
    }

    /** "0.0 if the list is empty". */
    private static void speedWithoutIntervals() {
        HallCommutator x = quick();
        CHECK.due("speed() of a new object", x.speed(), 0.0);
        edges(x, -1, 5, 1);
        CHECK.due("speed() after one edge", x.speed(), 0.0);
        edges(x, -1, 5, 1);
        CHECK.due("speed() after two", x.speed(), -1000000.0 / 30.0);
        Motors.come(x, 1, 7);
        CHECK.due("speed() without a sector", x.speed(), 0.0);
    }

    /** "with the sign of the direction of the latest edge", not of the mode or the position. */
    private static void speedHasTheSignOfTheLatestEdge() {
        HallCommutator x = Motors.quick(2);
        edges(x, -1, 5, 8);
        CHECK.due("speed() backward", x.speed(), -(1000000.0 * 6.0) / (6.0 * 30.0));
        edges(x, 1, 5, 2);
        CHECK.due("speed() forward at a position below 0", x.speed(), 1000000.0 / 30.0);
        CHECK.due("position()", x.position(), -6);
    }

    /** "n is the number of intervals and s their sum", the latest six of them at most. */
    private static void speedOfOneToSixIntervals() {
        HallCommutator x = quick();
        edges(x, -1, 5, 1);
        for (int n = 1; n <= 6; n++) {
            edges(x, -1, 5 + 2 * n, 1);
            double s = n * (6.0 + n);
            CHECK.due("speed() of " + n, x.speed(), -1 * (1000000.0 * n) / (6.0 * s));
        }
        edges(x, -1, 1000, 1);
        CHECK.due("speed() of the latest six", x.speed(), -1 * (1000000.0 * 6.0) / (6.0 * (72.0 - 7.0 + 1000.0)));
    }

    /** "the number of forward edges minus the number of backward edges". */
    private static void positionBelowZero() {
        HallCommutator x = quick();
        edges(x, -1, 1, 40);
        CHECK.due("position()", x.position(), -40);
        edges(x, 1, 1, 40);
        CHECK.due("position() back", x.position(), 0);
        CHECK.due("counts", Motors.countsOf(x), "0 0 80 0");
    }
}
