/** The boundary cases of the modes, the pulse and the dead time: steps 5 and 6 of a tick. */
public final class BoundaryLegsTest {
    private static final Check CHECK = new Check();

    public static void main(String[] args) {
        neverBothSwitches();
        legsOffWithoutASector();
        legsFollowTheSectorAtItsTick();
        everyPeriodAndDuty();
        pulseIsOnAtTheRightTicks();
        pulseCounterWraps();
        pulseCounterStays();
        periodLoweredToTheCounterOrBelow();
        periodRaisedAtTheEnd();
        dutyChangedInsideAPeriod();
        deadTimeFromLowToHigh();
        deadTimeFromHighToLow();
        deadTimeAcrossCoasting();
        deadTimeRaisedLooksFurtherBack();
        deadTimeLoweredEndsAtOnce();
        noDeadTimeForTheSameSwitch();
        noDeadTimeBeforeTheFirstTick();
        deadTimeOfRegenerativeBraking();
        switchesCountOnlyTicksTheyAreOn();
        CHECK.end();
    }

    private static HallCommutator fullDuty(int deadTime) {
        HallCommutator x = new HallCommutator();
        x.setPulse(4, 100);
        x.setDeadTime(deadTime);
        return x;
    }

    private static void mode(HallCommutator x, int mode, int ticks) {
        x.setMode(mode);
        x.run(ticks);
    }

    /** "a leg is high, low or off, according to which of them is on (never both)". */
    private static void neverBothSwitches() {
        HallCommutator x = fullDuty(0);
        x.setFilter(1);
        int[] high = new int[3];
        int[] low = new int[3];
        for (int i = 0; i < 100; i++) {
            x.setMode(i * 7 / 3 % 5);
            Motors.come(x, 1, Motors.codeOf(i / 3));
            for (int leg = 0; leg < 3; leg++) {
                high[leg] += x.leg(leg) == 1 ? 1 : 0;
                low[leg] += x.leg(leg) == -1 ? 1 : 0;
                CHECK.due("high ticks", x.onTicks(leg, true), high[leg]);
                CHECK.due("low ticks", x.onTicks(leg, false), low[leg]);
            }
        }
    }

    /** "In the modes 1, 2 and 4 all legs are off while the sector is NONE." Mode 3 asks no sector. */
    private static void legsOffWithoutASector() {
        String[] due = {"0 0 0", "0 0 0", "0 0 0", "-1 -1 -1", "0 0 0"};
        for (int mode = 0; mode <= 4; mode++) {
            for (int code : new int[] {0, 7}) {
                HallCommutator x = fullDuty(0);
                x.setFilter(1);
                Motors.come(x, 1, code);
                mode(x, mode, 1);
                CHECK.due("legs without a sector in mode " + mode, Motors.legsOf(x), due[mode]);
            }
        }
    }

    /** The sector of step 3 holds for the legs of step 6 of the same tick, NONE too. */
    private static void legsFollowTheSectorAtItsTick() {
        HallCommutator x = fullDuty(0);
        mode(x, 1, 1);
        x.schedule(1, 7);
        x.schedule(4, 6);
        String[] due = {"1 -1 0", "1 -1 0", "0 0 0", "0 0 0", "0 0 0", "-1 1 0"};
        for (int i = 0; i < due.length; i++) {
            x.run(1);
            CHECK.due("legs at " + (i + 2), Motors.legsOf(x), due[i]);
        }
    }

    /** "P * duty / 100 (rounded down)", for every period and duty. */
    private static void everyPeriodAndDuty() {
        for (int period = 4; period <= 100; period++) {
            for (int duty = 0; duty <= 100; duty++) {
                HallCommutator x = new HallCommutator();
                x.setPulse(period, duty);
                x.setMode(1);
                x.run(3 * period);
                int due = 3 * (period * duty / 100);
                CHECK.due("high ticks of " + period + ", " + duty, x.onTicks(0, true), due);
                CHECK.due("low ticks of " + period + ", " + duty, x.onTicks(1, false), 3 * period);
            }
        }
    }

    /** "The pulse is on while the pulse counter is less than P * duty / 100": the counter is the tick here. */
    private static void pulseIsOnAtTheRightTicks() {
        int[][] pulses = {{4, 0, 0}, {4, 24, 0}, {4, 25, 1}, {4, 99, 3}, {4, 100, 4}, {7, 50, 3}, {33, 34, 11},
            {99, 1, 0}, {100, 1, 1}, {100, 99, 99}, {100, 100, 100}};
        for (int[] p : pulses) {
            HallCommutator forward = fullDuty(0);
            HallCommutator regenerative = fullDuty(0);
            forward.setPulse(p[0], p[1]);
            regenerative.setPulse(p[0], p[1]);
            forward.setMode(1);
            regenerative.setMode(4);
            for (int tick = 1; tick <= 2 * p[0] + 1; tick++) {
                forward.run(1);
                regenerative.run(1);
                boolean on = tick % p[0] < p[2];
                String when = " of " + p[0] + ", " + p[1] + " at " + tick;
                CHECK.due("legs" + when, Motors.legsOf(forward), on ? "1 -1 0" : "0 -1 0");
                CHECK.due("legs braking" + when, Motors.legsOf(regenerative), on ? "-1 -1 0" : "0 0 0");
            }
        }
    }

    private static void counterDue(String when, HallCommutator x, int tick, int saved, int period, int counter) {
        CHECK.due("digest() with the pulse counter " + when, x.digest(),
            new Parts(x, tick, saved).pulse(period, 50, counter).digest());
    }

    /** "a pulse counter from 0 to P - 1", "becomes 0 at P". */
    private static void pulseCounterWraps() {
        for (int period : new int[] {4, 5, 10, 99, 100}) {
            HallCommutator x = new HallCommutator();
            x.setPulse(period, 50);
            x.run(period - 1);
            counterDue("P - 1", x, period - 1, 2, period, period - 1);
            x.run(1);
            counterDue("at P", x, period, 3, period, 0);
            x.run(1);
            counterDue("behind P", x, period + 1, 4, period, 1);
        }
    }

    /** "Sets the period and the duty. The pulse counter stays." Even where it is the new P or more. */
    private static void pulseCounterStays() {
        for (int period : new int[] {4, 29, 30, 31, 100}) {
            HallCommutator x = new HallCommutator();
            x.setPulse(100, 50);
            x.run(30);
            x.setPulse(period, 50);
            counterDue("behind setPulse(" + period + ", 50)", x, 30, 3, period, 30);
        }
    }

    /** "becomes 0 at P (or above, after P was changed)". */
    private static void periodLoweredToTheCounterOrBelow() {
        int[][] periods = {{4, 0}, {29, 0}, {30, 0}, {31, 0}, {32, 31}, {100, 31}};
        for (int[] p : periods) {
            HallCommutator x = new HallCommutator();
            x.setPulse(100, 50);
            x.run(30);
            x.setPulse(p[0], 50);
            x.run(1);
            counterDue("a tick behind setPulse(" + p[0] + ", 50)", x, 31, 4, p[0], p[1]);
        }
    }

    private static void periodRaisedAtTheEnd() {
        HallCommutator x = new HallCommutator();
        x.run(9);
        x.setPulse(11, 50);
        x.run(1);
        counterDue("10 of 11", x, 10, 3, 11, 10);
        x.run(1);
        counterDue("0 of 11", x, 11, 4, 11, 0);
    }

    /** The new duty holds from the next tick on, within the same period. */
    private static void dutyChangedInsideAPeriod() {
        HallCommutator x = new HallCommutator();
        x.setMode(1);
        x.run(5);
        CHECK.due("legs at counter 5 of 50 percent", Motors.legsOf(x), "0 -1 0");
        x.setPulse(10, 70);
        CHECK.due("legs before the next tick", Motors.legsOf(x), "0 -1 0");
        x.run(1);
        CHECK.due("legs at counter 6 of 70 percent", Motors.legsOf(x), "1 -1 0");
        x.run(1);
        CHECK.due("legs at counter 7 of 70 percent", Motors.legsOf(x), "0 -1 0");
    }

    /** "A leg that should be high [..] is off instead if it was low at one of the last Z ticks", Z 0 to 20. */
    private static void deadTimeFromLowToHigh() {
        for (int z = 0; z <= 20; z++) {
            HallCommutator x = fullDuty(z);
            mode(x, 3, 1);
            x.setMode(1);
            for (int i = 1; i <= z; i++) {
                x.run(1);
                CHECK.due("legs " + i + " ticks after low, Z " + z, Motors.legsOf(x), "0 -1 0");
            }
            x.run(1);
            CHECK.due("legs behind the dead time " + z, Motors.legsOf(x), "1 -1 0");
        }
    }

    /** "a leg that should be low is off instead if it was high at one of the last Z ticks", Z 0 to 20. */
    private static void deadTimeFromHighToLow() {
        for (int z = 0; z <= 20; z++) {
            HallCommutator x = fullDuty(z);
            mode(x, 1, 1);
            x.setMode(3);
            for (int i = 1; i <= z; i++) {
                x.run(1);
                CHECK.due("legs " + i + " ticks after high, Z " + z, Motors.legsOf(x), "0 -1 -1");
            }
            x.run(1);
            CHECK.due("legs behind the dead time " + z, Motors.legsOf(x), "-1 -1 -1");
        }
    }

    /** "at one of the last Z ticks": a leg that has been off since is held off all the same. */
    private static void deadTimeAcrossCoasting() {
        for (int z = 0; z <= 20; z++) {
            for (int coast = 1; coast <= 21; coast++) {
                HallCommutator x = fullDuty(z);
                mode(x, 3, 1);
                mode(x, 0, coast);
                mode(x, 1, 1);
                CHECK.due("leg(0), Z " + z + ", " + coast + " ticks off after low", x.leg(0), coast < z ? 0 : 1);
                HallCommutator y = fullDuty(z);
                mode(y, 1, 1);
                mode(y, 0, coast);
                mode(y, 3, 1);
                CHECK.due("leg(0), Z " + z + ", " + coast + " ticks off after high", y.leg(0), coast < z ? 0 : -1);
            }
        }
    }

    /** The ticks before setDeadTime count for the new dead time as well. */
    private static void deadTimeRaisedLooksFurtherBack() {
        HallCommutator x = fullDuty(0);
        mode(x, 3, 1);
        mode(x, 0, 19);
        x.setDeadTime(20);
        mode(x, 1, 1);
        CHECK.due("legs 20 ticks after low", Motors.legsOf(x), "0 -1 0");
        x.run(1);
        CHECK.due("legs 21 ticks after low", Motors.legsOf(x), "1 -1 0");
        HallCommutator y = fullDuty(0);
        mode(y, 1, 1);
        mode(y, 0, 19);
        y.setDeadTime(20);
        mode(y, 3, 1);
        CHECK.due("legs 20 ticks after high", Motors.legsOf(y), "0 -1 -1");
        y.run(1);
        CHECK.due("legs 21 ticks after high", Motors.legsOf(y), "-1 -1 -1");
    }

    private static void deadTimeLoweredEndsAtOnce() {
        HallCommutator x = fullDuty(20);
        mode(x, 3, 1);
        mode(x, 1, 5);
        x.setDeadTime(6);
        x.run(1);
        CHECK.due("legs 6 ticks after low, Z 6", Motors.legsOf(x), "0 -1 0");
        x.setDeadTime(6);
        x.run(1);
        CHECK.due("legs 7 ticks after low, Z 6", Motors.legsOf(x), "1 -1 0");
        HallCommutator y = fullDuty(20);
        mode(y, 3, 1);
        mode(y, 1, 5);
        y.setDeadTime(0);
        CHECK.due("legs before the next tick", Motors.legsOf(y), "0 -1 0");
        y.run(1);
        CHECK.due("legs 6 ticks after low, Z 0", Motors.legsOf(y), "1 -1 0");
    }

    /** Low after low and high after high need no dead time, with ticks off in between or without. */
    private static void noDeadTimeForTheSameSwitch() {
        HallCommutator x = new HallCommutator();
        x.setDeadTime(20);
        x.setMode(1);
        String[] due = {"1", "1", "1", "1", "0", "0", "0", "0", "0", "1", "1"};
        for (int i = 0; i < due.length; i++) {
            x.run(1);
            CHECK.due("legs at " + (i + 1), Motors.legsOf(x), due[i] + " -1 0");
        }
        HallCommutator y = fullDuty(20);
        mode(y, 3, 3);
        mode(y, 0, 1);
        mode(y, 3, 1);
        CHECK.due("low again", Motors.legsOf(y), "-1 -1 -1");
        mode(y, 4, 1);
        CHECK.due("low by the pulse", Motors.legsOf(y), "-1 -1 0");
    }

    /** No leg was high or low at tick 0 or before. */
    private static void noDeadTimeBeforeTheFirstTick() {
        String[] due = {"0 0 0", "1 -1 0", "-1 1 0", "-1 -1 -1", "-1 -1 0"};
        for (int mode = 0; mode <= 4; mode++) {
            HallCommutator x = fullDuty(20);
            mode(x, mode, 1);
            CHECK.due("legs at tick 1 in mode " + mode, Motors.legsOf(x), due[mode]);
        }
    }

    private static void deadTimeOfRegenerativeBraking() {
        HallCommutator x = fullDuty(3);
        mode(x, 1, 1);
        mode(x, 4, 3);
        CHECK.due("legs 3 ticks after high", Motors.legsOf(x), "0 -1 0");
        x.run(1);
        CHECK.due("legs 4 ticks after high", Motors.legsOf(x), "-1 -1 0");
        mode(x, 2, 3);
        CHECK.due("legs 3 ticks after low", Motors.legsOf(x), "-1 0 0");
        x.run(1);
        CHECK.due("legs 4 ticks after low", Motors.legsOf(x), "-1 1 0");
    }

    /** "For each switch it is counted at how many ticks it was on": not in the dead time, nor without a tick. */
    private static void switchesCountOnlyTicksTheyAreOn() {
        HallCommutator x = fullDuty(5);
        mode(x, 3, 4);
        mode(x, 1, 7);
        x.setMode(3);
        x.run(0);
        int[][] due = {{2, 4}, {0, 11}, {0, 4}};
        for (int leg = 0; leg < 3; leg++) {
            CHECK.due("high ticks of leg " + leg, x.onTicks(leg, true), due[leg][0]);
            CHECK.due("low ticks of leg " + leg, x.onTicks(leg, false), due[leg][1]);
        }
    }
}
