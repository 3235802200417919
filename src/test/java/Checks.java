/** Counts checks, and prints those that fail. */
final class Checks {
    interface Call {
        Object run();
    }

    interface OnFleet {
        Object run(FleetTerms x);
    }

    private static final int HOURS_AFTER = 7;

    int passed = 0;
    int failed = 0;

    void same(String what, long got, long want) {
        count(what, got == want, got, want);
    }

    void same(String what, boolean got, boolean want) {
        count(what, got == want, got, want);
    }

    void same(String what, double got, double want) {
        count(what, Double.compare(got, want) == 0, got, want);
    }

    void same(String what, String got, String want) {
        count(what, got.equals(want), got, want);
    }

    /** Whether a call throws an exception of exactly this class, and leaves the fleet as it was. */
    void fails(String what, FleetTerms x, Class<?> kind, Call call) {
        long before = x.digest();
        String got = "no exception";
        try {
            call.run();
        } catch (RuntimeException e) {
            got = e.getClass().getName();
        }
        count(what, got.equals(kind.getName()), got, kind.getName());
        count(what + " changes nothing", x.digest() == before, x.digest(), before);
    }

    /** Whether a call leaves the fleet as it was. */
    void keeps(String what, FleetTerms x, Call call) {
        long before = x.digest();
        call.run();
        count(what + " changes nothing", x.digest() == before, x.digest(), before);
    }

    /**
     * Whether a call throws an exception of exactly this class (null: none). If it throws, or is one that
     * changes nothing anyway, then the fleet must be as its twin on which it was not called, in all answers,
     * also of later hours.
     */
    void calls(String what, Scenes.Scene scene, Class<?> due, boolean changes, OnFleet call) {
        FleetTerms x = scene.make();
        String want = due == null ? "no exception" : due.getName();
        String got = "no exception";
        try {
            call.run(x);
        } catch (RuntimeException e) {
            got = e.getClass().getName();
        }
        count(what, got.equals(want), got, want);
        if (due != null || !changes) {
            likeItsTwin(what + " changes nothing", x, scene.make());
        }
    }

    private void likeItsTwin(String what, FleetTerms x, FleetTerms twin) {
        same(what, Answers.of(x), Answers.of(twin));
        same(what + ": hours later", x.pass(HOURS_AFTER), twin.pass(HOURS_AFTER));
        same(what + ": digest then", x.digest(), twin.digest());
    }

    private void count(String what, boolean good, Object got, Object want) {
        if (good) {
            passed++;
            return;
        }
        failed++;
        if (failed <= 50) {
            System.out.println("FAILED " + what + ": answered " + got + ", due is " + want);
        }
    }
}
