/** Compares answers with those that are due; every test class ends with {@link #end}. */
final class Due {
    private static int wrong = 0;
    private static int compared = 0;

    private Due() {
    }

    static void is(String what, long got, long want) {
        compared++;
        if (got != want) {
            wrong++;
            System.out.println(what + " answered " + got + ", due is " + want);
        }
    }

    static void is(String what, boolean got, boolean want) {
        is(what, got ? 1 : 0, want ? 1 : 0);
    }

    static void same(String what, String got, String want) {
        compared++;
        if (!got.equals(want)) {
            wrong++;
            System.out.println(what + " there is\n" + got + "due is\n" + want);
        }
    }

    static void thrown(String what, Class<? extends RuntimeException> want, Runnable call) {
        compared++;
        Class<?> got = null;
        try {
            call.run();
        } catch (RuntimeException e) {
            got = e.getClass();
        }
        if (got != want) {
            wrong++;
            System.out.println(what + " threw " + got + ", due is " + want);
        }
    }

    /** The next steps of a thread, each with the number that it answers. */
    static void steps(SteppedList x, int t, int... want) {
        for (int i = 0; i < want.length; i++) {
            is("step(" + t + "), number " + (i + 1) + " of its row", x.step(t), want[i]);
        }
    }

    /** A whole operation, alone: how many steps it takes and what comes out. */
    static void whole(SteppedList x, int t, int operation, int key, int steps, int result) {
        String what = "operation " + operation + " of thread " + t + " with key " + key;
        x.begin(t, operation, key);
        is(what + ": finish", x.finish(t), steps);
        is(what + ": result", x.result(t), result);
    }

    static void known(SteppedList x, int t, int... want) {
        for (int which = 0; which < want.length; which++) {
            is("known(" + t + ", " + which + ")", x.known(t, which), want[which]);
        }
    }

    static void says(SteppedList x, int t, int... want) {
        for (int which = 0; which < want.length; which++) {
            is("says(" + t + ", " + which + ")", x.says(t, which), want[which]);
        }
    }

    /** State, key, link, mark, life and what it was retired with. */
    static void block(SteppedList x, int b, int... want) {
        for (int what = 0; what < want.length; what++) {
            is("block(" + b + ", " + what + ")", x.block(b, what), want[what]);
        }
    }

    static void states(SteppedList x, int from, int... want) {
        for (int i = 0; i < want.length; i++) {
            is("block(" + (from + i) + ", 0)", x.block(from + i, 0), want[i]);
        }
    }

    static void end() {
        System.out.println(compared + " compared, " + wrong + " wrong");
        if (wrong != 0 || compared == 0) {
            System.exit(1);
        }
    }
}
