/** Promise 22: digest, value by value. */
public final class DigestTest {
    private static final Check CHECK = new Check();

    public static void main(String[] args) {
        everyPartInItsPlace();
        faultAndTimes();
        intervals();
        overflowIsIgnored();
        CHECK.end();
    }

    private static long hash(int... values) {
        long h = 2843;
        for (int v : values) {
            h = 31 * h + v;
        }
        return h;
    }

    private static void everyPartInItsPlace() {
        HallCommutator x = new HallCommutator();
        x.setFilter(2);
        x.setPulse(8, 75);
        x.setDeadTime(1);
        x.setStall(77);
        x.setMode(1);
        x.spin(1, 6, 2);
        x.schedule(13, 6);
        x.schedule(20, 0);
        x.schedule(13, 5);
        x.run(13);
        // the codes 3 and 2 come at 6 and 12, code 5 at 13; 3 is accepted at 7, and 5 is a new candidate
        // at 13; the pulse is on but for the counters 6 and 7, at the ticks 6 and 7
        CHECK.due("digest()", x.digest(), hash(13,
            2, 8, 75, 1, 77,
            1,
            5, 3, 1, 1,
            5,
            1, 0, -1,
            11, 0, 0, 6, 0, 7,
            1,
            0, 0, 1, 0,
            0,
            0, 0, 6,
            0, 0, 0,
            1, 20, 0,
            4));
    }

    private static void faultAndTimes() {
        HallCommutator x = new HallCommutator();
        x.setFilter(1);
        x.spin(-1, 3, 2);
        x.schedule(9, 7);
        x.setMode(1);
        x.run(10);
        // the pulse is on at the ticks 1 to 4 and 10; the edges are at 3 and 6, the illegal code at 9
        CHECK.due("digest() with wrong edges and times", x.digest(), hash(10,
            1, 10, 50, 2, 500,
            1,
            7, 7, -1, 0,
            0,
            0, 0, 0,
            2, 3, 0, 5, 2, 0,
            -2,
            1, 0, 2, 0,
            0,
            2, 2, 2,
            0, 0, 0,
            0,
            4));
        x.run(18);
        CHECK.due("digest() with a fault", x.digest(), hash(28,
            1, 10, 50, 2, 500,
            0,
            7, 7, -1, 0,
            8,
            0, 0, 0,
            2, 3, 0, 5, 2, 0,
            -2,
            1, 0, 2, 1,
            0,
            0, 0, 0,
            1, 28, 7,
            0,
            4));
    }

    private static void intervals() {
        HallCommutator x = new HallCommutator();
        x.setFilter(1);
        x.schedule(1, 3);
        x.schedule(3, 2);
        x.schedule(8, 6);
        x.schedule(15, 1);
        x.run(8);
        CHECK.due("digest() with intervals", x.digest(), hash(8,
            1, 10, 50, 2, 500,
            0,
            6, 6, 3, 0,
            8,
            0, 0, 0,
            0, 0, 0, 0, 0, 0,
            3,
            0, 0, 3, 0,
            2, 2, 5,
            0, 0, 0,
            0, 0, 0,
            1, 15, 1,
            4));
        x.run(7);
        CHECK.due("digest() with a skip", x.digest(), hash(15,
            1, 10, 50, 2, 500,
            0,
            1, 1, 0, 0,
            5,
            0, 0, 0,
            0, 0, 0, 0, 0, 0,
            3,
            0, 1, 3, 0,
            0,
            0, 0, 0,
            0, 0, 0,
            0,
            4));
    }

    private static void overflowIsIgnored() {
        HallCommutator x = new HallCommutator();
        x.spin(1, 1000, 40);
        int[] values = new int[35 + 80];
        int[] codes = {3, 2, 6, 4, 5, 1};
        int[] head = {0, 3, 10, 50, 2, 500, 0, 1, 1, 0};
        System.arraycopy(head, 0, values, 0, head.length);
        values[33] = 40;
        for (int i = 0; i < 40; i++) {
            values[34 + 2 * i] = 1000 * (i + 1);
            values[35 + 2 * i] = codes[i % 6];
        }
        values[114] = 1;
        CHECK.due("digest() of 40 waiting codes", x.digest(), hash(values));
    }
}
