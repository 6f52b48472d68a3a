/** Promises 1 to 7, 18, 33 and 40: the house, its accounts, their limits, rates and currencies, and days. */
public final class AccountsTest {
    private static final Class<IndexOutOfBoundsException> INDEX = IndexOutOfBoundsException.class;
    private static final Class<IllegalArgumentException> ARGUMENT = IllegalArgumentException.class;
    private static final Class<IllegalStateException> STATE = IllegalStateException.class;

    public static void main(String[] args) {
        newHouse();
        opening();
        limits();
        blocks();
        rates();
        promotions();
        currencies();
        days();
        noSuchAccount();
        Checks.end();
    }

    private static void newHouse() {
        StatementCycle x = new StatementCycle();
        Checks.same("a new day", x.today(), 0);
        Checks.same("a new house has collected", x.collected(), 0L);
        Checks.same("a new checksum", x.checksum(), 7L * 31);
        Checks.that("a new house is sound", x.isSound());
        Checks.fails("a new house has no account", INDEX, () -> x.owed(0));
        Checks.fails("a new house has no mean", ArithmeticException.class, () -> x.meanOwed());
        StatementCycle y = new StatementCycle();
        y.open(1);
        Checks.fails("houses are apart", INDEX, () -> x.owed(0));
    }

    private static void opening() {
        StatementCycle x = new StatementCycle();
        Checks.fails("open(-1)", ARGUMENT, () -> x.open(-1));
        Checks.fails("open(10000000)", ARGUMENT, () -> x.open(10000000));
        Checks.same("first", x.open(0), 0);
        Checks.same("second", x.open(9999999), 1);
        Checks.same("third", x.open(5), 2);
        Checks.same("fourth", x.open(5), 3);
        Checks.fails("fifth", STATE, () -> x.open(5));
        Checks.fails("fifth of a wrong limit", ARGUMENT, () -> x.open(-1));
        Checks.same("a new account owes", x.owed(1), 0L);
        Checks.same("a new account has events", x.events(1), 0);
    }

    private static void limits() {
        StatementCycle x = new StatementCycle();
        x.open(700);
        Checks.same("setLimit", x.setLimit(0, 0), 700);
        Checks.same("a limit of 0 lets nothing through", x.why(0, 'p', 1), 'l');
        Checks.same("setLimit again", x.setLimit(0, 9999999), 0);
        Checks.same("the highest limit", x.why(0, 'p', 999999), '-');
        Checks.fails("setLimit below", ARGUMENT, () -> x.setLimit(0, -1));
        Checks.fails("setLimit above", ARGUMENT, () -> x.setLimit(0, 10000000));
        Checks.fails("setLimit of none", INDEX, () -> x.setLimit(1, -1));
        Checks.same("a wrong limit changes nothing", x.setLimit(0, 5), 9999999);
        Checks.same("a limit is no event", x.events(0), 0);
    }

    private static void blocks() {
        StatementCycle x = new StatementCycle();
        x.open(700);
        Checks.same("block", x.block(0, true), false);
        Checks.same("block again", x.block(0, true), true);
        Checks.same("blocked", x.why(0, 'p', 1), 'b');
        Checks.same("let go", x.block(0, false), true);
        Checks.same("not blocked", x.why(0, 'p', 1), '-');
        Checks.fails("block of none", INDEX, () -> x.block(-1, true));
        Checks.same("a block is no event", x.events(0), 0);
    }

    private static void rates() {
        StatementCycle x = new StatementCycle();
        x.open(9999999);
        Checks.same("setRate", x.setRate(0, 'c', 3650), 0);
        Checks.same("kind of a rate", x.kindOf(0, 0), 'r');
        Checks.same("sum of a rate", x.sum(0, 0), 0);
        x.buyOn(0, 'c', 100000, 0);
        // A rate told behind a buy, the same day, holds for that day too.
        Checks.same("setRate again", x.setRate(0, 'c', 365), 2);
        x.pass(10);
        x.setRate(0, 'c', 0);
        x.pass(10);
        x.setRate(0, 'c', 9999);
        x.pass(1);
        x.setRate(0, 'c', 0);
        x.pass(9);
        // Ten days of 10 cents, and one of 273.95.
        Checks.same("interest by days of rates", x.interest(0, 0), 374L);
        Checks.fails("setRate of no kind", ARGUMENT, () -> x.setRate(0, 'x', 1));
        Checks.fails("setRate of P", ARGUMENT, () -> x.setRate(0, 'P', 1));
        Checks.fails("setRate below", ARGUMENT, () -> x.setRate(0, 'p', -1));
        Checks.fails("setRate above", ARGUMENT, () -> x.setRate(0, 'p', 10000));
        Checks.fails("setRate of none", INDEX, () -> x.setRate(1, 'x', 1));
        fill(x, 0);
        Checks.fails("setRate of a full account", STATE, () -> x.setRate(0, 'p', 1));
        Checks.fails("setRate of no kind, full", ARGUMENT, () -> x.setRate(0, 'q', 1));
    }

    private static void promotions() {
        StatementCycle x = new StatementCycle();
        x.open(9999999);
        x.setRate(0, 't', 365);
        x.buyOn(0, 't', 100000, 0);
        Checks.same("promote", x.promote(0, 3650, 5), 2);
        Checks.same("kind of a promotion", x.kindOf(0, 2), 'o');
        Checks.same("sum of a promotion", x.sum(0, 2), 0);
        x.setRate(0, 'p', 0);
        // A rate told behind a promotion waits till it is over.
        x.setRate(0, 't', 730);
        x.pass(30);
        Checks.same("five days of it, then the rate", x.interest(0, 0), 5 * 100L + 25 * 20);
        x.promote(0, 0, 360);
        x.pass(10);
        x.promote(0, 1000, 1);
        x.pass(20);
        // Ten days of nothing, one of 1000, 19 of 730: the first promotion does not come back.
        long days = 1 * 101000L * 1000 + 19 * 101000L * 730;
        Checks.same("the last promotion alone counts", x.interest(0, 1), (days + 1825000) / 3650000);
        Checks.fails("promote below", ARGUMENT, () -> x.promote(0, -1, 1));
        Checks.fails("promote above", ARGUMENT, () -> x.promote(0, 10000, 1));
        Checks.fails("promote for no day", ARGUMENT, () -> x.promote(0, 1, 0));
        Checks.fails("promote for 361 days", ARGUMENT, () -> x.promote(0, 1, 361));
        Checks.fails("promote of none", INDEX, () -> x.promote(4, -1, 1));
        fill(x, 0);
        Checks.fails("promote of a full account", STATE, () -> x.promote(0, 1, 1));
    }

    private static void currencies() {
        StatementCycle x = new StatementCycle();
        for (int i = 0; i < 4; i++) {
            int currency = i;
            Checks.same("setCurrency", x.setCurrency(i, 99999 - i), 1000);
            Checks.same("setCurrency again", x.setCurrency(i, 1), 99999 - i);
            Checks.fails("setCurrency of nothing", ARGUMENT, () -> x.setCurrency(currency, 0));
            Checks.fails("setCurrency above", ARGUMENT, () -> x.setCurrency(currency, 100000));
            Checks.same("a wrong worth changes nothing", x.setCurrency(i, 2), 1);
        }
        Checks.fails("setCurrency(-1)", ARGUMENT, () -> x.setCurrency(-1, 1));
        Checks.fails("setCurrency(4)", ARGUMENT, () -> x.setCurrency(4, 1));
    }

    private static void days() {
        StatementCycle x = new StatementCycle();
        Checks.fails("pass(0)", ARGUMENT, () -> x.pass(0));
        Checks.fails("pass(-1)", ARGUMENT, () -> x.pass(-1));
        Checks.fails("pass(31)", ARGUMENT, () -> x.pass(31));
        Checks.same("pass(1)", x.pass(1), 1);
        Checks.same("pass(30)", x.pass(30), 31);
        Checks.same("today", x.today(), 31);
        Checks.passTo(x, 341);
        Checks.fails("pass above 360", STATE, () -> x.pass(20));
        Checks.fails("pass of too many days at the end", ARGUMENT, () -> x.pass(31));
        Checks.same("pass to 360", x.pass(19), 360);
        Checks.fails("pass behind the end", STATE, () -> x.pass(1));
        Checks.same("the last day", x.today(), 360);
    }

    private static void noSuchAccount() {
        StatementCycle x = new StatementCycle();
        x.open(5);
        for (int account : new int[] {-1, 1, 4, Integer.MAX_VALUE, Integer.MIN_VALUE}) {
            Checks.fails("setRate", INDEX, () -> x.setRate(account, 'p', 1));
            Checks.fails("buy", INDEX, () -> x.buy(account, 'x', 1));
            Checks.fails("buyOn", INDEX, () -> x.buyOn(account, 'x', 1, 0));
            Checks.fails("abroad", INDEX, () -> x.abroad(account, 9, 1));
            Checks.fails("pay", INDEX, () -> x.pay(account, 0));
            Checks.fails("returns", INDEX, () -> x.returns(account, 0));
            Checks.fails("dispute", INDEX, () -> x.dispute(account, 0));
            Checks.fails("settle", INDEX, () -> x.settle(account, 0, true));
            Checks.fails("reverse", INDEX, () -> x.reverse(account, 0));
            Checks.fails("plan", INDEX, () -> x.plan(account));
            Checks.fails("redeem", INDEX, () -> x.redeem(account, 0));
            Checks.fails("owed", INDEX, () -> x.owed(account));
            Checks.fails("bucket", INDEX, () -> x.bucket(account, 'x'));
            Checks.fails("credit", INDEX, () -> x.credit(account));
            Checks.fails("statement", INDEX, () -> x.statement(account, -1));
            Checks.fails("told", INDEX, () -> x.told(account, -1));
            Checks.fails("difference", INDEX, () -> x.difference(account, -1));
            Checks.fails("least", INDEX, () -> x.least(account, -1));
            Checks.fails("interest", INDEX, () -> x.interest(account, -1));
            Checks.fails("hadGrace", INDEX, () -> x.hadGrace(account, -1));
            Checks.fails("paid", INDEX, () -> x.paid(account, -1));
            Checks.fails("missing", INDEX, () -> x.missing(account));
            Checks.fails("missed", INDEX, () -> x.missed(account));
            Checks.fails("isOff", INDEX, () -> x.isOff(account));
            Checks.fails("points", INDEX, () -> x.points(account));
            Checks.fails("events", INDEX, () -> x.events(account));
            Checks.fails("kindOf", INDEX, () -> x.kindOf(account, 0));
            Checks.fails("isBack", INDEX, () -> x.isBack(account, 0));
            Checks.fails("sum", INDEX, () -> x.sum(account, 0));
            Checks.fails("why", INDEX, () -> x.why(account, 'x', 0));
            Checks.fails("reasons", INDEX, () -> x.reasons(account, 'x', 0));
        }
    }

    private static void fill(StatementCycle x, int account) {
        while (x.events(account) < 60) {
            x.setRate(account, 'p', 2000);
        }
        Checks.same("a full account", x.events(account), 60);
    }
}
