/** Counts what was checked, and tells of each check that failed. */
final class Checks {
    /** A call that may throw. */
    interface Call {
        Object run();
    }

    private int passed;
    private int failed;

    void same(String what, Object got, Object want) {
        if (want.equals(got)) {
            passed++;
        } else {
            failed++;
            System.out.println("FAILED " + what + ": got " + got + ", due is " + want);
        }
    }

    void refused(String what, Class<? extends RuntimeException> want, Call call) {
        same(what, outcome(call), "throws " + want.getSimpleName());
    }

    /** The answer of a call, or a text with the name of what it threw. */
    static Object outcome(Call call) {
        try {
            return call.run();
        } catch (RuntimeException e) {
            return "throws " + e.getClass().getSimpleName();
        }
    }

    void finish(String name) {
        System.out.println(name + ": " + passed + " passed, " + failed + " failed");
        if (failed != 0 || passed == 0) {
            System.exit(1);
        }
    }
}
