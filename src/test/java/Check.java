/** What the tests share: a call's answer or exception against the one that is due. */
final class Check {
    /** A call that may throw. */
    interface Call {
        Object answer();
    }

    private int wrong = 0;
    private int checked = 0;

    void due(String call, Object got, Object want) {
        checked++;
        if (!want.equals(got)) {
            wrong++;
            System.out.println(call + " answered " + got + ", due is " + want);
        }
    }

    /** The very class of the exception is due, and the digest afterwards is the one before. */
    void refused(HallCommutator x, String call, Class<? extends RuntimeException> want, Call tried) {
        long before = x.digest();
        due(call, outcome(tried), "throws " + want.getName());
        due("digest() after " + call, x.digest(), before);
    }

    void illegalArgument(HallCommutator x, String call, Call tried) {
        refused(x, call, IllegalArgumentException.class, tried);
    }

    void illegalState(HallCommutator x, String call, Call tried) {
        refused(x, call, IllegalStateException.class, tried);
    }

    void outOfBounds(HallCommutator x, String call, Call tried) {
        refused(x, call, IndexOutOfBoundsException.class, tried);
    }

    static Object outcome(Call tried) {
        try {
            return tried.answer();
        } catch (RuntimeException e) {
            return "throws " + e.getClass().getName();
        }
    }

    void legs(HallCommutator x, String when, int a, int b, int c) {
        due("legs " + when, x.leg(0) + " " + x.leg(1) + " " + x.leg(2), a + " " + b + " " + c);
    }

    void end() {
        System.out.println(checked + " answers looked at, " + wrong + " wrong");
        if (wrong != 0 || checked == 0) {
            System.exit(1);
        }
    }
}
