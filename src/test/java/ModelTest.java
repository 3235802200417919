import java.util.Random;

/** Long runs of calls, answered by FleetTerms and by the model; the seeds are fixed. */
final class ModelTest {
    private static final int RUNS = 1000;
    private static final int CALLS = 512;
    private static final int[] EXTREMES = {
        Integer.MIN_VALUE, Integer.MIN_VALUE + 1, -1000, -2, -1, 100, 1000,
        Integer.MAX_VALUE - 1, Integer.MAX_VALUE,
    };

    static void run(Checks c) {
        int[] seen = new int[8];
        for (int run = 0; run < RUNS; run++) {
            oneRun(c, run, seen);
        }
        // A run that never gets there would compare nothing of it.
        c.same("some run loses entries", seen[0] > 0, true);
        c.same("some run has two that lead", seen[1] > 0, true);
        c.same("some run fills a log", seen[2] > 0, true);
        c.same("some run commits 10 entries", seen[3] > 0, true);
        c.same("some fleet is never led", seen[4] > 0, true);
        c.same("some fleet is led later", seen[5] > 0, true);
        c.same("some advice is the harbour 1", seen[6] > 0, true);
        c.same("some advice is the harbour 2", seen[7] > 0, true);
    }

    private static void oneRun(Checks c, int seed, int[] seen) {
        Random r = new Random(seed);
        FleetTerms x = new FleetTerms();
        Model m = new Model();
        // Runs differ in how often things are done to the fleet, so that some stay calm for long.
        int unrest = 1 + r.nextInt(12);
        int wrong = r.nextInt(10);
        for (int call = 0; call < CALLS; call++) {
            int kind = r.nextInt(40) < unrest ? r.nextInt(5) : 5 + r.nextInt(26);
            if (kind == 0 && r.nextInt(4) != 0) {
                kind = 4;
            }
            int[] a = arguments(r, m, kind);
            if (r.nextInt(100) < wrong) {
                a[r.nextInt(a.length)] = EXTREMES[r.nextInt(EXTREMES.length)];
            }
            String what = "seed " + seed + " call " + call + " kind " + kind + "(" + a[0] + ", " + a[1] + ", " + a[2] + ")";
            String want = answer(null, m, kind, a);
            c.same(what, answer(x, null, kind, a), want);
            c.same(what + ": digest() then", x.digest(), m.digest());
            note(m, kind, want, seen);
        }
    }

    private static void note(Model m, int kind, String want, int[] seen) {
        seen[0] += m.lost > 0 ? 1 : 0;
        seen[1] += m.count(3) > 1 ? 1 : 0;
        seen[2] += m.boats.get(0).log.size() == 10 ? 1 : 0;
        seen[3] += m.count(9) == 10 ? 1 : 0;
        seen[4] += kind == 23 && want.equals("-1") ? 1 : 0;
        seen[5] += kind == 23 && want.length() == 2 && !want.equals("-1") ? 1 : 0;
        seen[6] += kind == 25 && want.equals("1") ? 1 : 0;
        seen[7] += kind == 25 && want.equals("2") ? 1 : 0;
    }

    private static int[] arguments(Random r, Model m, int kind) {
        int n = m.boats.size();
        int boat = r.nextInt(20) == 0 ? r.nextInt(10) - 1 : r.nextInt(n);
        switch (kind) {
            case 0: return new int[] {2 + r.nextInt(7), 0, 0};
            case 1: return new int[] {boat, 1 + r.nextInt(10), 0};
            case 2: case 3: return new int[] {boat, r.nextInt(3) * r.nextInt(2), 0};
            case 4: return new int[] {boat, 0, 0};
            case 5: case 6: case 7: case 8:
                return new int[] {r.nextInt(3) == 0 || m.leader() < 0 ? boat : m.leader(), r.nextInt(3), 0};
            case 9: case 10: case 11: case 12: case 13: return new int[] {1 + r.nextInt(3), 0, 0};
            case 14: return new int[] {r.nextInt(53), 0, 0};
            case 15: case 16: return new int[] {boat, r.nextInt(12) - 1, 0};
            case 17: return new int[] {boat, r.nextInt(12) - 1, r.nextInt(5) - 1};
            case 18: case 19: return new int[] {boat, r.nextInt(n), 0};
            case 20: return new int[] {0, 0, 0};
            case 21: return new int[] {r.nextInt(12) - 1, 0, 0};
            case 22: return new int[] {r.nextInt(5) - 1, r.nextInt(5) - 1, 0};
            case 24: return new int[] {r.nextInt(53), 2 + r.nextInt(9), 0};
            case 25: return new int[] {boat, r.nextInt(23), 0};
            default: return new int[] {r.nextInt(4), r.nextInt(4), 0};
        }
    }

    /** What the one of the two that is there answers. */
    private static String answer(FleetTerms x, Model m, int kind, int[] a) {
        try {
            return x != null ? ofTerms(x, kind, a) : ofModel(m, kind, a);
        } catch (RuntimeException e) {
            return e.getClass().getName();
        }
    }

    private static String ofTerms(FleetTerms x, int kind, int[] a) {
        switch (kind) {
            case 0: return "" + x.fleet(a[0]);
            case 1: return "" + x.setPatience(a[0], a[1]);
            case 2: case 3: return "" + x.go(a[0], a[1]);
            case 4: return "" + x.sink(a[0]);
            case 5: case 6: case 7: case 8: return "" + x.write(a[0], a[1]);
            case 9: case 10: case 11: case 12: case 13: case 14: return "" + x.pass(a[0]);
            case 15: case 16: return "" + x.told(a[0], a[1]);
            case 17: return "" + x.entry(a[0], a[1], a[2]);
            case 18: return "" + x.agree(a[0], a[1]);
            case 19: return "" + x.newer(a[0], a[1]);
            case 20: return "" + x.leader();
            case 21: return "" + x.count(a[0]);
            case 22: return "" + x.harbour(a[0], a[1]);
            case 23: return "" + x.until();
            case 24: return "" + x.foresee(a[0], a[1]);
            case 25: return "" + x.advise(a[0], a[1]);
            case 26: return "" + x.mean();
            default: return "" + x.digest();
        }
    }

    private static String ofModel(Model m, int kind, int[] a) {
        switch (kind) {
            case 0: return "" + m.fleet(a[0]);
            case 1: return "" + m.setPatience(a[0], a[1]);
            case 2: case 3: return "" + m.go(a[0], a[1]);
            case 4: return "" + m.sink(a[0]);
            case 5: case 6: case 7: case 8: return "" + m.write(a[0], a[1]);
            case 9: case 10: case 11: case 12: case 13: case 14: return "" + m.pass(a[0]);
            case 15: case 16: return "" + m.told(a[0], a[1]);
            case 17: return "" + m.entry(a[0], a[1], a[2]);
            case 18: return "" + m.agree(a[0], a[1]);
            case 19: return "" + m.newer(a[0], a[1]);
            case 20: return "" + m.leader();
            case 21: return "" + m.count(a[0]);
            case 22: return "" + m.harbour(a[0], a[1]);
            case 23: return "" + m.until();
            case 24: return "" + m.foresee(a[0], a[1]);
            case 25: return "" + m.advise(a[0], a[1]);
            case 26: return "" + m.mean();
            default: return "" + m.digest();
        }
    }
}
