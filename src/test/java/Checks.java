/** Counts the checks of one test program and ends it with exit code 1 if one was wrong. */
final class Checks {
    interface Call {
        void make();
    }

    private static int made = 0;
    private static int wrong = 0;
    private static String test = "";

    private Checks() {
    }

    /** What is checked from now on belongs to the test of that name. */
    static void begin(String name) {
        test = name + ": ";
    }

    static int made() {
        return made;
    }

    static void same(String what, long got, long due) {
        made++;
        if (got != due) {
            fail(what + " answered " + got + ", due is " + due);
        }
    }

    static void yes(String what, boolean holds) {
        same(what, holds ? 1 : 0, 1);
    }

    static void fail(String message) {
        wrong++;
        System.out.println(test + message);
    }

    /** The call must throw exactly that class (none below it) and leave the state as it was. */
    static void refuses(String what, FlowComputer x, Class<?> due, Call call) {
        long before = x.digest();
        throwsExactly(what, due, call);
        same(what + ": digest after the exception", x.digest(), before);
    }

    static void throwsExactly(String what, Class<?> due, Call call) {
        Class<?> thrown = thrownBy(call);
        yes(what + " threw " + thrown + ", due is " + due, thrown == due);
    }

    static Class<?> thrownBy(Call call) {
        try {
            call.make();
            return null;
        } catch (RuntimeException e) {
            return e.getClass();
        }
    }

    static void end() {
        System.out.println(made + " checks, " + wrong + " wrong");
        if (wrong > 0 || made == 0) {
            System.exit(1);
        }
    }
}
