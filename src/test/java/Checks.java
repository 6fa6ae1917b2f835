/** Counts what was checked, and tells of each check that failed. */
final class Checks {
    /** A call that may throw. */
    interface Call {
        Object run();
    }

    private String about = "";
    private int passed;
    private int failed;

    /** The checks of one sentence of the document, told together with it. */
    void sentence(String words, Runnable body) {
        int before = passed + failed;
        about = "\"" + words + "\": ";
        try {
            body.run();
            if (passed + failed == before) {
                fail("nothing was checked");
            }
        } catch (RuntimeException e) {
            fail("stopped by " + e);
        }
        about = "";
    }

    void same(String what, Object got, Object want) {
        if (want.equals(got)) {
            passed++;
        } else {
            fail(what + ": got " + got + ", due is " + want);
        }
    }

    void refused(String what, Class<? extends RuntimeException> want, Call call) {
        same(what, outcome(call), "throws " + want.getSimpleName());
    }

    /** A call that is refused, and leaves the game as it was. */
    void refusedWithoutChange(RoyalUrTable table, String what, Class<? extends RuntimeException> want, Call call) {
        String before = LedGame.state(table);
        refused(what, want, call);
        same(what + " changes nothing", LedGame.state(table), before);
    }

    /** The answer of a call, or a text with the name of what it threw. */
    static Object outcome(Call call) {
        try {
            return call.run();
        } catch (RuntimeException e) {
            return "throws " + e.getClass().getSimpleName();
        }
    }

    void finish(String name) {
        System.out.println(name + ": " + passed + " passed, " + failed + " failed");
        if (failed != 0 || passed == 0) {
            System.exit(1);
        }
    }

    private void fail(String what) {
        failed++;
        System.out.println("FAILED " + about + what);
    }
}
