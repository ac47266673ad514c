import java.util.List;

/** Counts the answers that are not as due, and says them. */
final class Due {
    interface Call {
        long run();
    }

    private static int checked;
    private static int wrong;
    private static int sentences;
    private static String about = "";

    private Due() {
    }

    /** The test of one sentence of the document. It must look at something, and what is not as due is told with it. */
    static void sentence(String words, Runnable test) {
        about = words + ": ";
        sentences++;
        int before = checked;
        try {
            test.run();
        } catch (RuntimeException e) {
            wrong(" threw " + e + " at " + e.getStackTrace()[0]);
        }
        if (checked == before) {
            wrong("nothing was looked at");
        }
        about = "";
    }

    private static void wrong(String text) {
        wrong++;
        System.out.println(about + text);
    }

    static void is(String what, long want, long got) {
        checked++;
        if (got != want) {
            wrong(what + " answered " + got + ", due is " + want);
        }
    }

    /** Two pictures of an object, as Shot makes them. */
    static void same(String what, List<String> want, List<String> got) {
        checked++;
        for (int i = 0; i < Math.max(want.size(), got.size()); i++) {
            String one = i < want.size() ? want.get(i) : "nothing";
            String other = i < got.size() ? got.get(i) : "nothing";
            if (!one.equals(other)) {
                wrong(what + ": " + one + " became " + other);
                return;
            }
        }
    }

    static void is(String what, boolean want, boolean got) {
        is(what, want ? 1 : 0, got ? 1 : 0);
    }

    static void bounds(String what, Call call) {
        thrown(what, IndexOutOfBoundsException.class, call);
    }

    static void state(String what, Call call) {
        thrown(what, IllegalStateException.class, call);
    }

    static void argument(String what, Call call) {
        thrown(what, IllegalArgumentException.class, call);
    }

    /** The very class: what the machine throws by itself is of another one. */
    private static void thrown(String what, Class<? extends RuntimeException> want, Call call) {
        checked++;
        String got;
        try {
            got = "answered " + call.run();
        } catch (RuntimeException e) {
            if (e.getClass() == want) {
                return;
            }
            got = "threw " + e;
        }
        wrong(what + " " + got + ", due is " + want.getSimpleName());
    }

    static void end() {
        String of = sentences == 0 ? "" : sentences + " sentences, ";
        System.out.println(of + checked + " answers looked at, " + wrong + " not as due");
        if (wrong > 0) {
            System.exit(1);
        }
    }
}
