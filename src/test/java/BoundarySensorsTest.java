/** The boundary cases of time, of the scheduled codes and of the glitch filter: steps 1 and 2 of a tick. */
public final class BoundarySensorsTest {
    private static final Check CHECK = new Check();

    public static void main(String[] args) {
        eventsOnlyDuringRun();
        ticksPassOneByOne();
        codeComesAtItsTick();
        lastCodeOfATickRemains();
        codesOfATickThatAreNotTheLastAreNotFiltered();
        everyCodeHasItsSector();
        noSectorWhileTheFilteredCodeIsIllegal();
        everyFilterTime();
        glitchShorterThanTheFilterTime();
        anotherCodeBeginsAnew();
        theFilteredCodeEndsTheCount();
        aCandidateOfBeforeBeginsAnew();
        filterTimeChangedWhileCounting();
        filterTimeLoweredAsTheCodeChanges();
        filterTimeLoweredAsTheCodeReturns();
        CHECK.end();
    }

    private static String sensors(HallCommutator x) {
        return x.sensors(0) + " " + x.sensors(1) + " " + x.sensors(2) + " " + x.sensors(3);
    }

    private static void tickByTick(HallCommutator x, String... due) {
        for (int i = 0; i < due.length; i++) {
            x.run(1);
            CHECK.due("sensors at " + (i + 1), sensors(x), due[i]);
        }
    }

    /** "All events happen at the ticks that pass during run()." */
    private static void eventsOnlyDuringRun() {
        HallCommutator x = new HallCommutator();
        x.setFilter(1);
        x.setDeadTime(0);
        x.setPulse(4, 100);
        x.setStall(10);
        x.setMode(1);
        x.spin(1, 1, 1);
        x.schedule(1, 7);
        for (int i = 0; i < 30; i++) {
            CHECK.due("run(0)", x.run(0), 0);
        }
        CHECK.due("sensors without a tick", sensors(x), "1 1 0 0");
        CHECK.due("legs without a tick", Motors.legsOf(x), "0 0 0");
        CHECK.due("digest() without a tick", x.digest(), new Parts(x, 0, 4).filter(1).deadTime(0)
            .pulse(4, 100, 0).stall(10).waiting(1, 3, 1, 7).digest());
    }

    /** "The present tick increases by 1": many short runs are one long run. */
    private static void ticksPassOneByOne() {
        HallCommutator once = Motors.Scene.BUSY.make();
        HallCommutator often = Motors.Scene.BUSY.make();
        CHECK.due("run(35)", once.run(35), 75);
        for (int i = 1; i <= 35; i++) {
            CHECK.due("run(1)", often.run(1), 40 + i);
        }
        CHECK.due("digest() of 35 runs of a tick", often.digest(), once.digest());
    }

    /** "at its tick a scheduled code becomes the raw code": not a tick before, and it stays. */
    private static void codeComesAtItsTick() {
        HallCommutator x = new HallCommutator();
        x.run(5);
        x.schedule(7, 6);
        x.schedule(1, 4);
        CHECK.due("raw at 5", x.sensors(0), 1);
        x.run(1);
        CHECK.due("raw at 6", x.sensors(0), 4);
        x.run(5);
        CHECK.due("raw at 11", x.sensors(0) + " waiting " + x.waiting(), "4 waiting 1");
        x.run(1);
        CHECK.due("raw at 12", x.sensors(0) + " waiting " + x.waiting(), "6 waiting 0");
        x.run(5000);
        CHECK.due("raw long after", x.sensors(0), 6);
    }

    /** "in the order in which they were scheduled (the last one remains)". */
    private static void lastCodeOfATickRemains() {
        HallCommutator x = new HallCommutator();
        for (int code = 0; code <= 7; code++) {
            x.schedule(2, code);
        }
        x.schedule(3, 1);
        x.schedule(2, 5);
        x.run(1);
        CHECK.due("waiting a tick before", x.waiting(), 10);
        x.run(1);
        CHECK.due("raw, with nine codes at a tick", x.sensors(0), 5);
        CHECK.due("waiting, with nine codes gone", x.waiting(), 1);
    }

    /** The filter (step 2) sees the raw code that step 1 leaves, and no other. */
    private static void codesOfATickThatAreNotTheLastAreNotFiltered() {
        HallCommutator x = Motors.quick(0);
        x.schedule(1, 7);
        x.schedule(1, 2);
        x.schedule(1, 3);
        x.run(1);
        CHECK.due("sensors", sensors(x), "3 3 1 0");
        CHECK.due("counts", Motors.countsOf(x), "0 0 1 0");
        HallCommutator y = new HallCommutator();
        y.schedule(1, 3);
        y.schedule(2, 1);
        y.schedule(2, 3);
        y.schedule(3, 7);
        y.schedule(3, 3);
        y.run(3);
        CHECK.due("a code that is covered at its tick is no glitch", sensors(y), "3 3 1 0");
    }

    /** "The legal codes 1, 3, 2, 6, 4, 5 stand for the sectors 0 to 5 [..]; 0 and 7 are illegal codes." */
    private static void everyCodeHasItsSector() {
        int[] sectors = {HallCommutator.NONE, 0, 2, 1, 4, 5, 3, HallCommutator.NONE};
        for (int code = 0; code <= 7; code++) {
            HallCommutator x = Motors.quick(0);
            Motors.come(x, 1, code);
            CHECK.due("the sector of code " + code, x.sensors(2), sectors[code]);
            CHECK.due("illegal codes after code " + code, x.counts(0), sectors[code] < 0 ? 1 : 0);
        }
    }

    /** "the sector is NONE while the filtered code is illegal": the raw code alone does not matter. */
    private static void noSectorWhileTheFilteredCodeIsIllegal() {
        HallCommutator x = new HallCommutator();
        x.schedule(1, 0);
        x.schedule(4, 6);
        tickByTick(x, "0 1 0 1", "0 1 0 2", "0 0 -1 0", "6 0 -1 1", "6 0 -1 2", "6 6 3 0");
        CHECK.due("counts", Motors.countsOf(x), "1 0 0 0");
    }

    /** "If the filter count is F then [..] the raw code is accepted", F from 1 to 50. */
    private static void everyFilterTime() {
        for (int f = 1; f <= 50; f++) {
            for (int code : new int[] {3, 7}) {
                HallCommutator x = new HallCommutator();
                x.setFilter(f);
                x.schedule(1, code);
                x.run(f - 1);
                CHECK.due("filtered a tick before " + f, x.sensors(1), 1);
                CHECK.due("filter count a tick before " + f, x.sensors(3), f - 1);
                x.run(1);
                CHECK.due("filtered at " + f, x.sensors(1), code);
                CHECK.due("filter count at " + f, x.sensors(3), 0);
            }
        }
    }

    private static void glitchShorterThanTheFilterTime() {
        for (int f = 2; f <= 50; f++) {
            HallCommutator x = new HallCommutator();
            x.setFilter(f);
            x.schedule(1, 3);
            x.schedule(f, 1);
            x.run(2 * f);
            CHECK.due("a glitch of " + (f - 1) + " ticks of " + f, sensors(x), "1 1 0 0");
            CHECK.due("position()", x.position(), 0);
        }
    }

    /** "otherwise it becomes the candidate code, and the filter count becomes 1". */
    private static void anotherCodeBeginsAnew() {
        HallCommutator x = new HallCommutator();
        x.schedule(1, 3);
        x.schedule(3, 7);
        x.schedule(5, 2);
        tickByTick(x, "3 1 0 1", "3 1 0 2", "7 1 0 1", "7 1 0 2", "2 1 0 1", "2 1 0 2", "2 2 2 0");
    }

    /** "If the raw code equals the filtered code, the filter count becomes 0." */
    private static void theFilteredCodeEndsTheCount() {
        HallCommutator x = new HallCommutator();
        x.schedule(1, 3);
        x.schedule(3, 1);
        x.schedule(4, 3);
        tickByTick(x, "3 1 0 1", "3 1 0 2", "1 1 0 0", "3 1 0 1", "3 1 0 2", "3 3 1 0", "3 3 1 0");
    }

    /** A candidate code that another one replaced is not remembered. */
    private static void aCandidateOfBeforeBeginsAnew() {
        HallCommutator x = new HallCommutator();
        x.schedule(1, 3);
        x.schedule(3, 2);
        x.schedule(4, 3);
        tickByTick(x, "3 1 0 1", "3 1 0 2", "2 1 0 1", "3 1 0 1", "3 1 0 2", "3 3 1 0");
    }

    /** "(or more, after F was changed)": a count of 10, then every F. */
    private static void filterTimeChangedWhileCounting() {
        for (int f = 1; f <= 50; f++) {
            HallCommutator x = new HallCommutator();
            x.setFilter(30);
            x.schedule(1, 3);
            x.run(10);
            x.setFilter(f);
            CHECK.due("sensors at the change to " + f, sensors(x), "3 1 0 10");
            int accepted = Math.max(11, f);
            x.run(accepted - 11);
            CHECK.due("sensors before, changed to " + f, sensors(x), "3 1 0 " + (accepted - 1));
            x.run(1);
            CHECK.due("sensors then, changed to " + f, sensors(x), "3 3 1 0");
        }
    }

    /** The count of the old candidate does not help the new one. */
    private static void filterTimeLoweredAsTheCodeChanges() {
        HallCommutator x = new HallCommutator();
        x.setFilter(50);
        x.schedule(1, 3);
        x.schedule(11, 2);
        x.run(10);
        x.setFilter(2);
        x.run(1);
        CHECK.due("sensors at the new code", sensors(x), "2 1 0 1");
        x.run(1);
        CHECK.due("sensors a tick later", sensors(x), "2 2 2 0");
        CHECK.due("counts", Motors.countsOf(x), "0 1 0 0");
    }

    private static void filterTimeLoweredAsTheCodeReturns() {
        HallCommutator x = new HallCommutator();
        x.setFilter(50);
        x.schedule(1, 3);
        x.schedule(11, 1);
        x.run(10);
        x.setFilter(1);
        x.run(1);
        CHECK.due("sensors", sensors(x), "1 1 0 0");
        CHECK.due("counts", Motors.countsOf(x), "0 0 0 0");
    }
}
