/** What the tests share: it counts and prints the answers that are not the ones that are due. */
final class Check {
    static final Class<? extends RuntimeException> OUTSIDE = IndexOutOfBoundsException.class;
    static final Class<? extends RuntimeException> WRONG = IllegalArgumentException.class;
    static final Class<? extends RuntimeException> STATE = IllegalStateException.class;

    private static int wrong = 0;

    private Check() {
    }

    static void due(String call, long got, long want) {
        if (got != want) {
            tell(call + " answered " + got + ", due is " + want);
        }
    }

    static void dueDouble(String call, double got, double want) {
        if (Double.compare(got, want) != 0) {
            tell(call + " answered " + got + ", due is " + want);
        }
    }

    /** The event is found, at this place, and began at this time. */
    static void found(QuakeBench bench, int event, int... placeAndTime) {
        for (int what = 0; what < placeAndTime.length; what++) {
            due("event(" + event + ", " + what + ")", bench.event(event, what), placeAndTime[what]);
        }
    }

    /** The picks from 0 on have these events. */
    static void eventsOfPicks(QuakeBench bench, int... want) {
        for (int pick = 0; pick < want.length; pick++) {
            due("pick(" + pick + ", 4)", bench.pick(pick, 4), want[pick]);
        }
        due("count(1)", bench.count(1), want.length);
    }

    /** What is beyond low to high: one beyond each end, and the ends of int. */
    static int[] beyond(int low, int high) {
        return new int[] {low - 1, high + 1, Integer.MIN_VALUE, Integer.MAX_VALUE};
    }

    /** The call must throw exactly this exception (no other of its kind below it) and leave the digest as it is. */
    static void refused(QuakeBench bench, String call, Class<? extends RuntimeException> want, Runnable run) {
        long before = bench.digest();
        try {
            run.run();
            tell(call + " threw nothing, due is " + want.getSimpleName());
        } catch (RuntimeException e) {
            if (e.getClass() != want) {
                tell(call + " threw " + e.getClass().getSimpleName() + ", due is " + want.getSimpleName());
            }
            ownThrow(call, e);
        }
        due("digest after " + call, bench.digest(), before);
    }

    /** The class throws by its own statements; a list that throws the same exception by itself would be a fault. */
    static void ownThrow(String call, RuntimeException e) {
        StackTraceElement[] trace = e.getStackTrace();
        if (trace.length == 0 || !trace[0].getClassName().equals("QuakeBench")) {
            tell(call + ": the exception is not thrown by the class itself");
        }
    }

    static void tell(String what) {
        wrong++;
        System.out.println(what);
    }

    static void end() {
        if (wrong != 0) {
            System.out.println(wrong + " answers are not as due");
            System.exit(1);
        }
    }
}
