/** Counts answers that are as due and those that are not; each test's main ends with finish(). */
final class Check {
    private static int passed = 0;
    private static int failed = 0;

    private Check() {
    }

    static void same(String call, double got, double due) {
        tell(got == due, call, String.valueOf(got), String.valueOf(due));
    }

    static void same(String call, long got, long due) {
        tell(got == due, call, String.valueOf(got), String.valueOf(due));
    }

    static void same(String call, boolean got, boolean due) {
        tell(got == due, call, String.valueOf(got), String.valueOf(due));
    }

    static void same(String call, String got, String due) {
        tell(got.equals(due), call, got, due);
    }

    static void near(String call, double got, double due) {
        double off = got - due;
        tell(off < 1e-9 && off > -1e-9, call, String.valueOf(got), "nearly " + due);
    }

    static void index(String call, Runnable run) {
        same(call, outcome(run), "IndexOutOfBoundsException");
    }

    static void argument(String call, Runnable run) {
        same(call, outcome(run), "IllegalArgumentException");
    }

    static void state(String call, Runnable run) {
        same(call, outcome(run), "IllegalStateException");
    }

    static void fine(String call, Runnable run) {
        same(call, outcome(run), "no exception");
    }

    static String outcome(Runnable run) {
        try {
            run.run();
            return "no exception";
        } catch (RuntimeException e) {
            return e.getClass().getSimpleName();
        }
    }

    private static void tell(boolean right, String call, String got, String due) {
        if (right) {
            passed++;
        } else {
            failed++;
            System.out.println("  " + call + " answered " + got + ", due is " + due);
        }
    }

    static void finish(String test) {
        System.out.println(test + ": " + passed + " passed, " + failed + " failed");
        if (failed > 0 || passed == 0) {
            System.exit(1);
        }
    }
}
