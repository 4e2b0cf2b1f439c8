/**
 * The boundary cases of the promises 1 to 22, one after the other, where a call is not refused: the ends
 * of each range are taken and work. (The refused calls are in BoundaryRefusalTest.)
 */
public final class BoundaryCallsTest {
    private static final Check CHECK = new Check();

    public static void main(String[] args) {
        newObject();
        filterTimes();
        periodsAndDuties();
        deadTimes();
        stallTimes();
        modes();
        sameModeKeepsTheTimes();
        otherModeClearsTheTimes();
        modeChangesTheLegsAtTheNextTick();
        clearFaultLeavesTheRest();
        shortestAndLongestDelay();
        everyCode();
        fortyCodesAndRoomAgain();
        delayIsFromThePresentTick();
        spinsFillTheRoom();
        shortestAndLongestSpin();
        spinFromEverySector();
        spinFromTheRawCode();
        spinFromTheLatestTick();
        spinFromTheLastScheduledOfATick();
        spinFromALegalCodeBehindAnIllegalOne();
        spinAfterAllCodesCame();
        spinBehindTheFurthestCode();
        codesBetweenSpunOnes();
        runsOfNoneAndManyTicks();
        sensorValues();
        legsAndSwitches();
        faultValuesWithoutAFault();
        waitingCodes();
        digestOfNegativeValues();
        digestOfSeveralWaitingCodes();
        callsUpToTheLastPromised();
        CHECK.end();
    }

    /** Promise 1: "Creates a simulator at tick 0", with the initial values of the description. */
    private static void newObject() {
        HallCommutator x = new HallCommutator();
        CHECK.due("digest()", x.digest(), new Parts(x, 0, 0).digest());
        CHECK.due("sensors", x.sensors(0) + " " + x.sensors(1) + " " + x.sensors(2) + " " + x.sensors(3), "1 1 0 0");
        CHECK.due("legs", Motors.legsOf(x), "0 0 0");
        CHECK.due("counts", Motors.countsOf(x), "0 0 0 0");
        CHECK.due("mode(), position(), waiting()", x.mode() + " " + x.position() + " " + x.waiting(), "0 0 0");
        CHECK.due("fault", Motors.faultOf(x), "0 at 0 detail 0");
        CHECK.due("previous values", x.setFilter(9) + " " + x.setPulse(9, 9) + " " + x.setDeadTime(9) + " "
            + x.setStall(99) + " " + x.setMode(4), "3 50 2 500 0");
        CHECK.due("digest() of another", new HallCommutator().digest(), new Parts(new HallCommutator(), 0, 0).digest());
    }

    /** Promise 2, "ticks: 1 to 50": every one is taken, "Returns the previous filter time." */
    private static void filterTimes() {
        HallCommutator x = new HallCommutator();
        int before = 3;
        for (int f = 1; f <= 50; f++) {
            CHECK.due("setFilter(" + f + ")", x.setFilter(f), before);
            CHECK.due("digest()", x.digest(), new Parts(x, 0, Math.min(f, 4)).filter(f).digest());
            before = f;
        }
    }

    /** Promise 3, "period: 4 to 100", "duty: 0 to 100": "Returns the previous duty." */
    private static void periodsAndDuties() {
        int[][] pulses = {{4, 0}, {100, 0}, {4, 100}, {100, 100}, {5, 1}, {99, 99}, {99, 99}};
        HallCommutator x = new HallCommutator();
        x.run(3);
        int before = 50;
        for (int i = 0; i < pulses.length; i++) {
            CHECK.due("setPulse " + i, x.setPulse(pulses[i][0], pulses[i][1]), before);
            before = pulses[i][1];
            CHECK.due("digest() " + i, x.digest(),
                new Parts(x, 3, Math.min(i + 2, 4)).pulse(pulses[i][0], before, 3).digest());
        }
    }

    /** Promise 4, "ticks: 0 to 20": every one is taken, "Returns the previous dead time." */
    private static void deadTimes() {
        HallCommutator x = new HallCommutator();
        int before = 2;
        for (int z = 0; z <= 20; z++) {
            CHECK.due("setDeadTime(" + z + ")", x.setDeadTime(z), before);
            CHECK.due("digest()", x.digest(), new Parts(x, 0, Math.min(z + 1, 4)).deadTime(z).digest());
            before = z;
        }
    }

    /** Promise 5, "ticks: 10 to 100000": "Returns the previous stall time." */
    private static void stallTimes() {
        HallCommutator x = new HallCommutator();
        int before = 500;
        for (int stall : new int[] {10, 11, 99999, 100000, 100000}) {
            CHECK.due("setStall(" + stall + ")", x.setStall(stall), before);
            before = stall;
        }
        CHECK.due("digest()", x.digest(), new Parts(x, 0, 4).stall(100000).digest());
    }

    /** Promise 6, "mode: 0 to 4": from every mode to every mode, "Returns the previous mode." */
    private static void modes() {
        for (int from = 0; from <= 4; from++) {
            for (int to = 0; to <= 4; to++) {
                HallCommutator x = new HallCommutator();
                CHECK.due("setMode(" + from + ")", x.setMode(from), 0);
                CHECK.due("setMode(" + to + ")", x.setMode(to), from);
                CHECK.due("mode()", x.mode(), to);
                CHECK.due("digest()", x.digest(), new Parts(x, 0, 2).digest());
            }
        }
    }

    private static HallCommutator timed(int mode) {
        HallCommutator x = Motors.quick(mode);
        x.spin(mode == 1 ? -1 : 1, 1, 2);
        x.run(5);
        Motors.come(x, 1, 7);
        x.run(3);
        return x;
    }

    private static long timedDigest(HallCommutator x, int... times) {
        return new Parts(x, 9, 4).filter(1).pulse(10, 50, 9).times(times[0], times[1], times[2]).digest();
    }

    /** Promise 6: "If it differs from the present mode": the same mode changes none of the three. */
    private static void sameModeKeepsTheTimes() {
        for (int mode = 1; mode <= 2; mode++) {
            HallCommutator x = timed(mode);
            CHECK.due("digest() before", x.digest(), timedDigest(x, 2, 4, 3));
            CHECK.due("setMode", x.setMode(mode), mode);
            CHECK.due("digest() after", x.digest(), timedDigest(x, 2, 4, 3));
        }
    }

    /** Promise 6: "the number of wrong edges in a row, the illegal time and the idle time become 0". */
    private static void otherModeClearsTheTimes() {
        for (int from = 1; from <= 2; from++) {
            for (int to = 0; to <= 4; to++) {
                HallCommutator x = timed(from);
                x.setMode(to);
                int kept = to == from ? 1 : 0;
                CHECK.due("digest() " + from + " to " + to, x.digest(), timedDigest(x, 2 * kept, 4 * kept, 3 * kept));
            }
        }
    }

    /** Promise 6: "The legs change at the next tick." */
    private static void modeChangesTheLegsAtTheNextTick() {
        String[] legs = {"0 0 0", "1 -1 0", "-1 1 0", "-1 -1 -1", "-1 -1 0"};
        for (int from = 0; from <= 4; from++) {
            for (int to = 0; to <= 4; to++) {
                HallCommutator x = new HallCommutator();
                x.setDeadTime(0);
                x.setPulse(4, 100);
                x.setMode(from);
                x.run(1);
                x.setMode(to);
                x.run(0);
                CHECK.due("legs at setMode " + from + " to " + to, Motors.legsOf(x), legs[from]);
                x.run(1);
                CHECK.due("legs a tick later, " + from + " to " + to, Motors.legsOf(x), legs[to]);
            }
        }
    }

    /** Promise 7: "Removes the fault", and nothing else: the mode stays 0, the count of faults stays. */
    private static void clearFaultLeavesTheRest() {
        HallCommutator x = Motors.Scene.FAULTY.make();
        CHECK.due("clearFault()", x.clearFault(), 3);
        CHECK.due("fault", Motors.faultOf(x), "0 at 0 detail 0");
        CHECK.due("mode() and counts", x.mode() + " " + Motors.countsOf(x), "0 0 0 2 1");
        CHECK.due("digest()", x.digest(), new Parts(x, 40, 4).stall(12).waiting(70, 3).digest());
        CHECK.due("setMode(1)", x.setMode(1), 0);
    }

    /** Promise 8, "delay: 1 to 100000". */
    private static void shortestAndLongestDelay() {
        HallCommutator x = new HallCommutator();
        CHECK.due("schedule(100000, 6)", x.schedule(100000, 6), 1);
        CHECK.due("schedule(1, 3)", x.schedule(1, 3), 2);
        x.run(1);
        CHECK.due("raw at 1", x.sensors(0), 3);
        Motors.runLong(x, 99998);
        CHECK.due("raw at 99999", x.sensors(0), 3);
        x.run(1);
        CHECK.due("raw at 100000", x.sensors(0), 6);
    }

    /** Promise 8, "code: 0 to 7", the one that is there already too. */
    private static void everyCode() {
        HallCommutator x = new HallCommutator();
        for (int code = 0; code <= 7; code++) {
            CHECK.due("schedule(2, " + code + ")", x.schedule(2, code), 1);
            x.run(1);
            CHECK.due("waiting()", x.waiting(), 1);
            x.run(1);
            CHECK.due("raw", x.sensors(0) + " waiting " + x.waiting(), code + " waiting 0");
        }
    }

    /** Promise 8: the 40th code is taken, and another one as soon as one has come. */
    private static void fortyCodesAndRoomAgain() {
        HallCommutator x = new HallCommutator();
        for (int i = 1; i <= 40; i++) {
            CHECK.due("schedule " + i, x.schedule(50 - i, 1 + i % 6), i);
        }
        CHECK.illegalState(x, "schedule the 41st", () -> x.schedule(1, 1));
        x.run(9);
        CHECK.illegalState(x, "schedule the 41st a tick before the first comes", () -> x.schedule(1, 1));
        x.run(1);
        CHECK.due("schedule when one has come", x.schedule(1, 1), 40);
        CHECK.illegalState(x, "schedule the 41st again", () -> x.schedule(1, 1));
        x.run(39);
        CHECK.due("waiting()", x.waiting(), 0);
        CHECK.due("raw, the first scheduled comes last", x.sensors(0), 2);
    }

    /** Promise 8: "the number of ticks from the present tick". */
    private static void delayIsFromThePresentTick() {
        HallCommutator x = new HallCommutator();
        x.run(123);
        x.schedule(1, 3);
        x.schedule(100000, 2);
        CHECK.due("digest()", x.digest(), new Parts(x, 123, 3).pulse(10, 50, 3).waiting(124, 3, 100123, 2).digest());
    }

    /** Promise 9: exactly 40 may be waiting then, whatever was waiting before. */
    private static void spinsFillTheRoom() {
        for (int before = 0; before <= 40; before++) {
            HallCommutator x = new HallCommutator();
            for (int i = 0; i < before; i++) {
                x.schedule(3, 1);
            }
            int room = 40 - before;
            if (before > 0) {
                CHECK.illegalState(x, "spin beyond the room of " + room, () -> x.spin(1, 1, room + 1));
            }
            if (room > 0) {
                CHECK.due("spin into the room of " + room, x.spin(1, 1, room), 40);
            }
            CHECK.due("waiting()", x.waiting(), 40);
        }
    }

    /** Promise 9, "interval: 1 to 1000", "steps: number of codes, 1 to 40". */
    private static void shortestAndLongestSpin() {
        for (int direction : new int[] {1, -1}) {
            for (int interval : new int[] {1, 1000}) {
                for (int steps : new int[] {1, 40}) {
                    HallCommutator x = new HallCommutator();
                    CHECK.due("spin", x.spin(direction, interval, steps), steps);
                    int[] waiting = new int[2 * steps];
                    for (int i = 0; i < steps; i++) {
                        waiting[2 * i] = interval * (i + 1);
                        waiting[2 * i + 1] = Motors.codeOf(direction * (i + 1));
                    }
                    CHECK.due("digest()", x.digest(), new Parts(x, 0, 1).waiting(waiting).digest());
                }
            }
        }
    }

    /** Promise 9: "the code of the next sector in a direction", around the end and the beginning. */
    private static void spinFromEverySector() {
        for (int sector = 0; sector < 6; sector++) {
            for (int direction : new int[] {1, -1}) {
                HallCommutator x = new HallCommutator();
                x.schedule(4, Motors.codeOf(sector));
                x.run(4);
                x.spin(direction, 7, 2);
                CHECK.due("digest()", x.digest(), new Parts(x, 4, 3).pulse(10, 50, 4).waiting(
                    11, Motors.codeOf(sector + direction), 18, Motors.codeOf(sector + 2 * direction)).digest());
            }
        }
    }

    /** Promise 9: "or of the raw code if none is waiting": the filtered code may be another, or illegal. */
    private static void spinFromTheRawCode() {
        HallCommutator x = Motors.quick(0);
        Motors.come(x, 1, 7);
        x.setFilter(50);
        Motors.come(x, 1, 6);
        CHECK.due("filtered", x.sensors(1), 7);
        CHECK.due("spin from a legal raw code", x.spin(1, 1, 1), 1);
        x.run(1);
        CHECK.due("raw", x.sensors(0), 4);
        HallCommutator y = new HallCommutator();
        Motors.come(y, 1, 7);
        CHECK.due("filtered", y.sensors(1), 1);
        CHECK.illegalState(y, "spin from an illegal raw code", () -> y.spin(1, 1, 1));
    }

    /** Promise 9: "the code that is scheduled for the latest tick", not the one that was scheduled last. */
    private static void spinFromTheLatestTick() {
        HallCommutator x = new HallCommutator();
        x.schedule(20, 6);
        x.schedule(10, 7);
        x.schedule(19, 3);
        CHECK.due("spin(1, 5, 2)", x.spin(1, 5, 2), 5);
        CHECK.due("digest()", x.digest(), new Parts(x, 0, 4).waiting(10, 7, 19, 3, 20, 6, 25, 4, 30, 5).digest());
    }

    /** Promise 9: "(the one scheduled last of several)". */
    private static void spinFromTheLastScheduledOfATick() {
        HallCommutator x = new HallCommutator();
        x.schedule(20, 6);
        x.schedule(20, 3);
        x.schedule(4, 5);
        x.spin(-1, 1, 1);
        CHECK.due("digest()", x.digest(), new Parts(x, 0, 4).waiting(4, 5, 20, 6, 20, 3, 21, 1).digest());
    }

    /** Promise 9: only the code to start from must be legal. */
    private static void spinFromALegalCodeBehindAnIllegalOne() {
        HallCommutator x = new HallCommutator();
        Motors.come(x, 5, 0);
        x.schedule(20, 7);
        CHECK.illegalState(x, "spin from a 7", () -> x.spin(1, 1, 1));
        x.schedule(20, 5);
        CHECK.due("spin from a 5 of the same tick", x.spin(1, 1, 1), 3);
        x.schedule(22, 0);
        CHECK.illegalState(x, "spin from a 0", () -> x.spin(1, 1, 1));
    }

    /** Promise 9: "(or after the present tick if none is waiting)". */
    private static void spinAfterAllCodesCame() {
        HallCommutator x = new HallCommutator();
        x.spin(1, 5, 2);
        x.run(9);
        x.spin(1, 5, 1);
        CHECK.due("digest() with one waiting", x.digest(),
            new Parts(x, 9, 3).pulse(10, 50, 9).waiting(10, 2, 15, 6).digest());
        x.run(30);
        x.spin(-1, 5, 1);
        CHECK.due("digest() with none waiting", x.digest(),
            new Parts(x, 39, 4).pulse(10, 50, 9).waiting(44, 2).digest());
    }

    /** Promise 9: a spin may reach further than the longest delay. */
    private static void spinBehindTheFurthestCode() {
        HallCommutator x = new HallCommutator();
        x.schedule(100000, 4);
        CHECK.due("spin(-1, 1000, 39)", x.spin(-1, 1000, 39), 40);
        Motors.runLong(x, 138999);
        CHECK.due("waiting() at 138999", x.waiting(), 1);
        CHECK.due("raw at 138999", x.sensors(0), Motors.codeOf(4 - 38));
        x.run(1);
        CHECK.due("raw at 139000", x.sensors(0) + " waiting " + x.waiting(), Motors.codeOf(4 - 39) + " waiting 0");
    }

    /** Codes of equal ticks keep the order of scheduling, spun ones too. */
    private static void codesBetweenSpunOnes() {
        HallCommutator x = new HallCommutator();
        x.spin(1, 5, 3);
        x.schedule(10, 7);
        x.schedule(1, 4);
        x.schedule(10, 5);
        CHECK.due("digest()", x.digest(),
            new Parts(x, 0, 4).waiting(1, 4, 5, 3, 10, 2, 10, 7, 10, 5, 15, 6).digest());
        x.run(10);
        CHECK.due("raw at 10", x.sensors(0), 5);
        CHECK.due("spin(1, 5, 1)", x.spin(1, 5, 1), 2);
        x.run(10);
        CHECK.due("raw at 20", x.sensors(0), 4);
    }

    /** Promise 10, "ticks: 0 to 5000": "Returns the present tick afterwards." */
    private static void runsOfNoneAndManyTicks() {
        HallCommutator x = new HallCommutator();
        CHECK.due("run(0)", x.run(0), 0);
        CHECK.due("run(1)", x.run(1), 1);
        CHECK.due("run(4999)", x.run(4999), 5000);
        CHECK.due("run(5000)", x.run(5000), 10000);
        CHECK.due("run(0)", x.run(0), 10000);
        CHECK.due("digest()", x.digest(), new Parts(x, 10000, 4).digest());
    }

    /** Promise 11: "0 the raw code, 1 the filtered code, 2 the sector (NONE [..]), 3 the filter count". */
    private static void sensorValues() {
        HallCommutator x = new HallCommutator();
        x.schedule(1, 7);
        x.schedule(4, 5);
        x.run(5);
        int[] due = {5, 7, HallCommutator.NONE, 2};
        for (int what = 0; what < 4; what++) {
            CHECK.due("sensors(" + what + ")", x.sensors(what), due[what]);
        }
    }

    /** Promises 13 and 14, "leg: 0 to 2": each leg and each of its switches has an answer of its own. */
    private static void legsAndSwitches() {
        HallCommutator x = new HallCommutator();
        x.setFilter(1);
        x.setDeadTime(0);
        x.setPulse(4, 100);
        x.setMode(1);
        int[] ticks = {1, 2, 4, 8, 16, 32};
        for (int sector = 0; sector < 6; sector++) {
            x.schedule(1, Motors.codeOf(sector));
            x.run(ticks[sector]);
        }
        int[][] due = {{1 + 2, 8 + 16}, {4 + 8, 1 + 32}, {16 + 32, 2 + 4}};
        for (int leg = 0; leg < 3; leg++) {
            CHECK.due("onTicks(" + leg + ", true)", x.onTicks(leg, true), due[leg][0]);
            CHECK.due("onTicks(" + leg + ", false)", x.onTicks(leg, false), due[leg][1]);
        }
        CHECK.due("legs of sector 5", Motors.legsOf(x), "0 -1 1");
    }

    /** Promise 19: "0 for 1 and 2 if no fault is kept", after one was cleared too. */
    private static void faultValuesWithoutAFault() {
        HallCommutator x = Motors.quick(1);
        x.spin(-1, 2, 3);
        x.run(6);
        CHECK.due("fault", Motors.faultOf(x), "2 at 6 detail 3");
        x.clearFault();
        CHECK.due("fault cleared", Motors.faultOf(x), "0 at 0 detail 0");
    }

    /** Promise 20: from none to 40 and back to none, each code of a tick that has come is gone. */
    private static void waitingCodes() {
        HallCommutator x = new HallCommutator();
        CHECK.due("waiting() of none", x.waiting(), 0);
        x.spin(1, 3, 40);
        for (int tick = 1; tick <= 121; tick++) {
            x.run(1);
            CHECK.due("waiting() at " + tick, x.waiting(), Math.max(0, 40 - tick / 3));
        }
    }

    /** Promise 22: "the sector (NONE if there is none)", a position and a detail below 0: added as they are. */
    private static void digestOfNegativeValues() {
        HallCommutator x = new HallCommutator();
        x.setFilter(1);
        x.setStall(10);
        x.setMode(2);
        x.spin(-1, 1, 2);
        x.run(12);
        x.clearFault();
        x.undo();
        x.setPulse(4, 0);
        x.schedule(1, 7);
        x.run(1);
        // backward edges at the ticks 1 and 2; reverse, so B, then A is high by the pulse and C low until the
        // stall of tick 12; the illegal code comes at 13
        int[] values = {13,
            1, 4, 0, 2, 10,
            0,
            7, 7, -1, 0,
            3,
            0, 0, 0,
            5, 0, 1, 0, 0, 11,
            -2,
            1, 0, 2, 1,
            0,
            0, 0, 0,
            3, 12, -2,
            0,
            4};
        long h = 2843;
        for (int v : values) {
            h = 31 * h + v;
        }
        CHECK.due("digest()", x.digest(), h);
    }

    /** Promise 22: "in the order of their ticks (and of scheduling for equal ticks), their ticks and codes". */
    private static void digestOfSeveralWaitingCodes() {
        HallCommutator x = new HallCommutator();
        x.schedule(9, 0);
        x.schedule(7, 5);
        x.schedule(9, 7);
        x.schedule(7, 4);
        x.schedule(8, 6);
        CHECK.due("digest()", x.digest(), new Parts(x, 0, 4).waiting(7, 5, 7, 4, 8, 6, 9, 0, 9, 7).digest());
    }

    /** "An object is used for at most 512 calls": the dearest of them, and the last still answers. */
    private static void callsUpToTheLastPromised() {
        HallCommutator x = new HallCommutator();
        x.setMode(3);
        for (int call = 2; call <= 510; call++) {
            CHECK.due("run(5000), call " + call, x.run(5000), 5000 * (call - 1));
        }
        CHECK.due("schedule, call 511", x.schedule(100000, 7), 1);
        CHECK.due("onTicks, call 512", x.onTicks(2, false), 5000 * 509);
        HallCommutator y = Motors.quick(0);
        for (int call = 3; call <= 509; call += 3) {
            CHECK.due("spin, call " + call, y.spin(1, 1, 40), 40);
            y.run(40);
            y.setPulse(4, 0);
        }
        CHECK.due("position()", y.position(), 40 * 169);
        CHECK.due("speed()", y.speed(), 1000000.0 / 6.0);
    }
}
