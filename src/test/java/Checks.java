/** Counts the answers that are not due, and ends a test with exit code 1 if there was one. */
final class Checks {
    interface Call {
        Object run();
    }

    /** Makes the same house each time. */
    interface Recipe {
        StatementCycle make();
    }

    interface Ask {
        Object of(StatementCycle x);
    }

    private static int made = 0;
    private static int wrong = 0;

    private Checks() {
    }

    static void same(String what, Object got, Object want) {
        made++;
        if (!got.equals(want)) {
            wrong++;
            System.out.println(what + " answered " + got + ", due is " + want);
        }
    }

    static void that(String what, boolean holds) {
        same(what, holds, true);
    }

    static void fails(String what, Class<? extends RuntimeException> want, Call call) {
        same(what, answer(call), "throws." + want.getSimpleName());
    }

    /** The call throws, and the house goes on as one of the same recipe that was never asked. */
    static void refused(String what, Class<? extends RuntimeException> want, Recipe recipe, Ask ask) {
        StatementCycle x = recipe.make();
        fails(what, want, () -> ask.of(x));
        same(what + ", and then the house", Probe.of(x), Probe.of(recipe.make()));
    }

    /**
     * The answer of a call, or the name of what it throws behind "throws."; what was not thrown by a throw of the
     * class itself, but by the machine or the library, is told behind "machine.".
     */
    static Object answer(Call call) {
        try {
            return call.run();
        } catch (RuntimeException e) {
            String thrower = e.getStackTrace()[0].getClassName();
            boolean isOwn = thrower.startsWith("StatementCycle") || thrower.startsWith("PlainHouse");
            // The machine's own exceptions bear a message, those of the class none.
            isOwn &= e.getMessage() == null;
            return (isOwn ? "throws." : "machine.") + e.getClass().getSimpleName();
        }
    }

    static void end() {
        System.out.println(made + " checks, " + wrong + " wrong");
        if (wrong != 0 || made == 0) {
            System.exit(1);
        }
    }

    /** Lets days go by, also more than one call allows. */
    static void passTo(StatementCycle x, int day) {
        while (x.today() < day) {
            x.pass(Math.min(30, day - x.today()));
        }
    }
}
