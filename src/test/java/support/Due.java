/** Counts the answers that are not as due, and says them. */
final class Due {
    interface Call {
        long run();
    }

    private static int checked;
    private static int wrong;

    private Due() {
    }

    static void is(String what, long want, long got) {
        checked++;
        if (got != want) {
            wrong++;
            System.out.println(what + " answered " + got + ", due is " + want);
        }
    }

    static void is(String what, boolean want, boolean got) {
        is(what, want ? 1 : 0, got ? 1 : 0);
    }

    static void bounds(String what, Call call) {
        thrown(what, IndexOutOfBoundsException.class, call);
    }

    static void state(String what, Call call) {
        thrown(what, IllegalStateException.class, call);
    }

    static void argument(String what, Call call) {
        thrown(what, IllegalArgumentException.class, call);
    }

    /** The very class: what the machine throws by itself is of another one. */
    private static void thrown(String what, Class<? extends RuntimeException> want, Call call) {
        checked++;
        String got;
        try {
            got = "answered " + call.run();
        } catch (RuntimeException e) {
            if (e.getClass() == want) {
                return;
            }
            got = "threw " + e;
        }
        wrong++;
        System.out.println(what + " " + got + ", due is " + want.getSimpleName());
    }

    static void end() {
        System.out.println(checked + " answers looked at, " + wrong + " not as due");
        if (wrong > 0) {
            System.exit(1);
        }
    }
}
