/** Counts the answers that are not due, and ends a test with exit code 1 if there was one. */
final class Checks {
    interface Call {
        Object run();
    }

    private static int made = 0;
    private static int wrong = 0;

    private Checks() {
    }

    static void same(String what, Object got, Object want) {
        made++;
        if (!got.equals(want)) {
            wrong++;
            System.out.println(what + " answered " + got + ", due is " + want);
        }
    }

    static void that(String what, boolean holds) {
        same(what, holds, true);
    }

    static void fails(String what, Class<? extends RuntimeException> want, Call call) {
        same(what, answer(call), "throws." + want.getSimpleName());
    }

    /**
     * The answer of a call, or the name of what it throws behind "throws."; what was not thrown by a throw of the
     * class itself, but by the machine or the library, is told behind "machine.".
     */
    static Object answer(Call call) {
        try {
            return call.run();
        } catch (RuntimeException e) {
            String thrower = e.getStackTrace()[0].getClassName();
            boolean isOwn = thrower.startsWith("StatementCycle") || thrower.startsWith("PlainHouse");
            return (isOwn ? "throws." : "machine.") + e.getClass().getSimpleName();
        }
    }

    static void end() {
        System.out.println(made + " checks, " + wrong + " wrong");
        if (wrong != 0 || made == 0) {
            System.exit(1);
        }
    }

    /** Lets days go by, also more than one call allows. */
    static void passTo(StatementCycle x, int day) {
        while (x.today() < day) {
            x.pass(Math.min(30, day - x.today()));
        }
    }
}
