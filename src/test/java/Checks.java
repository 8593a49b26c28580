/** What the tests share: they count what is wrong, and end with exit code 1 if something was. */
final class Checks {
    interface Call {
        long answer();
    }

    private static int wrong = 0;

    private Checks() {
    }

    static void due(String what, long want, long got) {
        if (got != want) {
            fail(what + " answered " + got + ", due is " + want);
        }
    }

    /** The very class is asked for: a machine's own ArrayIndexOutOfBoundsException is not an IndexOutOfBoundsException here. */
    static void throwsIt(String what, Class<? extends RuntimeException> want, Call call) {
        long got;
        try {
            got = call.answer();
        } catch (RuntimeException e) {
            if (e.getClass() != want) {
                fail(what + " threw " + e.getClass().getName() + ", due is " + want.getName());
            }
            return;
        }
        fail(what + " answered " + got + ", due is " + want.getName());
    }

    static void index(String what, Call call) {
        throwsIt(what, IndexOutOfBoundsException.class, call);
    }

    static void argument(String what, Call call) {
        throwsIt(what, IllegalArgumentException.class, call);
    }

    static void state(String what, Call call) {
        throwsIt(what, IllegalStateException.class, call);
    }

    static void fail(String what) {
        wrong++;
        System.out.println(what);
    }

    static void end(String test) {
        System.out.println(test + ": " + (wrong == 0 ? "all as due" : wrong + " not as due"));
        if (wrong != 0) {
            System.exit(1);
        }
    }
}
