/** Counts the answers that are not as due. */
final class Check {
    interface Call {
        void go();
    }

    private static int wrong = 0;
    private static int checks = 0;

    private Check() {
    }

    static void same(String what, long got, long due) {
        checks++;
        if (got != due) {
            fail(what + " answered " + got + ", due is " + due);
        }
    }

    static void same(String what, boolean got, boolean due) {
        same(what, got ? 1 : 0, due ? 1 : 0);
    }

    static void sameDouble(String what, double got, double due) {
        checks++;
        if (Double.compare(got, due) != 0) {
            fail(what + " answered " + got + ", due is " + due);
        }
    }

    static void index(String what, Call call) {
        refuses(what, IndexOutOfBoundsException.class, call);
    }

    static void argument(String what, Call call) {
        refuses(what, IllegalArgumentException.class, call);
    }

    static void state(String what, Call call) {
        refuses(what, IllegalStateException.class, call);
    }

    // The very class is asked for: what the machine throws is of a class below these.
    private static void refuses(String what, Class<?> due, Call call) {
        checks++;
        Class<?> got = null;
        try {
            call.go();
        } catch (RuntimeException e) {
            got = e.getClass();
        }
        if (got != due) {
            fail(what + " threw " + got + ", due is " + due);
        }
    }

    static void fail(String why) {
        wrong++;
        if (wrong <= 50) {
            System.out.println("  " + why);
        }
    }

    static void end(String name) {
        System.out.println(name + ": " + checks + " checks, " + wrong + " wrong");
        if (wrong != 0) {
            System.exit(1);
        }
    }
}
