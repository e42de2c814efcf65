/** Counts and prints the answers that are not as due; end() fails the test if there were any. */
final class Check {
    interface Call {
        void run();
    }

    private static int wrong = 0;

    private Check() {
    }

    static void same(String call, long got, long due) {
        if (got != due) {
            report(call + " answered " + got + ", due is " + due);
        }
    }

    static void same(String call, boolean got, boolean due) {
        if (got != due) {
            report(call + " answered " + got + ", due is " + due);
        }
    }

    static void same(String call, double got, double due) {
        if (got != due) {
            report(call + " answered " + got + ", due is " + due);
        }
    }

    /** That a call throws just this kind, and that the planner is then as it was. */
    static void fails(String call, Class<? extends RuntimeException> due, Granary granary, Call body) {
        long before = granary.digest();
        Class<?> got = null;
        try {
            body.run();
        } catch (RuntimeException e) {
            got = e.getClass();
        }
        if (got != due) {
            report(call + " threw " + got + ", due is " + due);
        }
        if (granary.digest() != before) {
            report(call + " changed something");
        }
    }

    interface Maker {
        Granary make();
    }

    interface CallOn {
        void run(Granary granary);
    }

    /** What a call throws; null without any. */
    static Class<?> thrownBy(Granary granary, CallOn body) {
        try {
            body.run(granary);
        } catch (RuntimeException e) {
            return e.getClass();
        }
        return null;
    }

    /**
     * That a call throws just this kind (null for none), and that the planner is then as it was: now, by its digest,
     * and, as the digest does not tell all (a price, a point, a rank), also as days go by, beside one never asked.
     */
    static void leavesAsItWas(String call, Class<? extends RuntimeException> due, Maker maker, CallOn body) {
        Granary granary = maker.make();
        Granary untouched = maker.make();
        long before = granary.digest();
        Class<?> got = thrownBy(granary, body);
        if (got != due) {
            report(call + " threw " + got + ", due is " + due);
        }
        boolean changed = granary.digest() != before;
        for (int days : new int[] {1, 2, 27}) {
            granary.pass(days);
            untouched.pass(days);
            changed |= granary.digest() != untouched.digest();
        }
        if (changed) {
            report(call + " changed something");
        }
    }

    static void noIndex(String call, Granary granary, Call body) {
        fails(call, IndexOutOfBoundsException.class, granary, body);
    }

    static void noArgument(String call, Granary granary, Call body) {
        fails(call, IllegalArgumentException.class, granary, body);
    }

    static void noState(String call, Granary granary, Call body) {
        fails(call, IllegalStateException.class, granary, body);
    }

    static void report(String what) {
        wrong++;
        if (wrong <= 40) {
            System.out.println(what);
        }
    }

    static int wrongs() {
        return wrong;
    }

    static void end() {
        if (wrong != 0) {
            System.out.println(wrong + " answers are not as due");
            System.exit(1);
        }
    }
}
