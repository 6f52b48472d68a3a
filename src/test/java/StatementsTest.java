import java.util.NoSuchElementException;

/** Promises 22 to 31 and 16: statements, grace, least payments, late fees, plans, and accounts written off. */
public final class StatementsTest {
    private static final Class<NoSuchElementException> NONE = NoSuchElementException.class;
    private static final Class<UnsupportedOperationException> UNSUPPORTED = UnsupportedOperationException.class;

    public static void main(String[] args) {
        closing();
        rounding();
        grace();
        leastPayments();
        dueDays();
        lateFees();
        laterFeesSixBack();
        writingOff();
        notMissedBetween();
        plans();
        toldAndDifferent();
        Checks.end();
    }

    private static StatementCycle house() {
        StatementCycle x = new StatementCycle();
        x.open(9999999);
        return x;
    }

    private static void closing() {
        StatementCycle x = house();
        for (int cycle : new int[] {-1, 0, 12, Integer.MAX_VALUE}) {
            noStatement(x, cycle);
        }
        x.buy(0, 'p', 7000);
        x.pass(29);
        noStatement(x, 0);
        x.pass(1);
        Checks.same("closed on the day 30", x.statement(0, 0), 7000L);
        Checks.same("told", x.told(0, 0), 7000L);
        noStatement(x, 1);
        noStatement(x, -1);
        x.buy(0, 'p', 100);
        Checks.same("a buy of the day is of the next one", x.statement(0, 0), 7000L);
        Checks.passTo(x, 360);
        Checks.same("the last one", x.told(0, 11), x.owed(0));
        x.buyOn(0, 'p', 5000, 330);
        x.reverse(0, 0);
        x.reverse(0, 1);
        Checks.same("the last one by now", x.statement(0, 11), x.owed(0));
        Checks.same("missing of the last one", x.missing(0), x.least(0, 11));
        Checks.that("something is missing", x.missing(0) > 0);
        noStatement(x, 12);
    }

    private static void noStatement(StatementCycle x, int cycle) {
        Checks.fails("statement", NONE, () -> x.statement(0, cycle));
        Checks.fails("told", NONE, () -> x.told(0, cycle));
        Checks.fails("difference", NONE, () -> x.difference(0, cycle));
        Checks.fails("least", NONE, () -> x.least(0, cycle));
        Checks.fails("interest", NONE, () -> x.interest(0, cycle));
        Checks.fails("hadGrace", NONE, () -> x.hadGrace(0, cycle));
        Checks.fails("paid", NONE, () -> x.paid(0, cycle));
    }

    private static void rounding() {
        // 50 cents at 3650 for one day are 182500: 10 days are half a cent.
        StatementCycle x = house();
        x.setRate(0, 'c', 3650);
        x.setRate(0, 't', 3650);
        x.buy(0, 'c', 50);
        x.buy(0, 't', 49);
        x.pass(10);
        x.setRate(0, 'c', 0);
        x.setRate(0, 't', 0);
        x.pass(20);
        Checks.same("half a cent up", x.bucket(0, 'c'), 51L);
        Checks.same("less is nothing", x.bucket(0, 't'), 49L);
        Checks.same("each bucket is rounded", x.interest(0, 0), 1L);
        Checks.same("cash at 2500 a day", interestOfOne('c'), 21L);
        Checks.same("transfers at 2000", interestOfOne('t'), 16L);
        Checks.same("purchases in grace", interestOfOne('p'), 0L);
    }

    private static long interestOfOne(char kind) {
        StatementCycle x = house();
        x.buy(0, kind, 1000);
        x.pass(30);
        return x.interest(0, 0);
    }

    private static void grace() {
        StatementCycle x = house();
        x.buy(0, 'p', 100000);
        x.pass(30);
        Checks.same("the first has grace", x.hadGrace(0, 0), true);
        x.pass(25);
        x.pay(0, 100000);
        x.pass(5);
        Checks.same("paid on the day on which it is due", x.paid(0, 0), 'f');
        Checks.same("grace is kept", x.hadGrace(0, 1), true);
        x.buy(0, 'p', 100000);
        x.pass(30);
        Checks.same("and kept on", x.hadGrace(0, 2), true);
        x.pay(0, 99999);
        x.pass(30);
        Checks.same("one cent less", x.paid(0, 2), 'l');
        Checks.same("grace is lost", x.hadGrace(0, 3), false);
        x.pay(0, (int) x.owed(0));
        x.pass(30);
        Checks.same("still lost by the one before", x.hadGrace(0, 4), false);
        x.pass(30);
        Checks.same("won back", x.hadGrace(0, 5), true);
        StatementCycle y = house();
        y.buy(0, 'p', 100000);
        y.pass(30);
        y.pass(26);
        y.pay(0, 100000);
        y.pass(4);
        Checks.same("paid a day late", y.paid(0, 0), 'm');
        Checks.same("no grace", y.hadGrace(0, 1), false);
        // 25 days of 100000, one with the fee, then 4 days of the fee.
        long days = (25 * 100000L + 102500 + 4 * 2500) * 2000;
        Checks.same("interest of purchases", y.interest(0, 1), (days + 1825000) / 3650000);
        StatementCycle z = house();
        z.pay(0, 500);
        z.buyOn(0, 'p', 500, 0);
        z.buy(0, 'p', 500);
        z.pay(0, 500);
        z.pass(30);
        z.pass(26);
        Checks.same("what was paid ahead of closing does not count, but 0 is paid in full", z.paid(0, 0), 'f');
        StatementCycle w = house();
        w.buy(0, 'p', 500);
        w.pass(30);
        w.redeem(0, 5);
        w.pay(0, 495);
        w.pass(26);
        Checks.same("redeemed points are not paid", w.paid(0, 0), 'm');
    }

    private static void leastPayments() {
        StatementCycle x = house();
        x.buy(0, 'p', 2499);
        x.pass(30);
        Checks.same("the balance at most", x.least(0, 0), 2499L);
        x.redeem(0, 24);
        x.pay(0, 2490);
        Checks.same("also what is missing is credit if less is owed", x.credit(0), 15L);
        StatementCycle one = house();
        one.buy(0, 'p', 1);
        one.pass(30);
        Checks.same("a balance of a cent", one.least(0, 0), 1L);
        Checks.same("a cent is missing", one.missing(0), 1L);
        one.pay(0, 1);
        Checks.same("no more", one.missing(0), 0L);
        StatementCycle y = house();
        y.setRate(0, 'p', 0);
        y.buy(0, 'p', 250099);
        y.pass(30);
        Checks.same("2500 at least", y.least(0, 0), 2500L);
        y.buyOn(0, 'p', 1, 29);
        Checks.same("a hundredth", y.least(0, 0), 2501L);
        y.pass(30);
        Checks.same("with the fees of the cycle", y.least(0, 1), 2526L + 2500);
        StatementCycle z = house();
        z.setRate(0, 'c', 3650);
        z.buy(0, 'c', 200000);
        z.pass(30);
        Checks.same("with interest", z.least(0, 0), 2060L + 6000);
        StatementCycle w = house();
        Checks.same("nothing missing without a statement", w.missing(0), 0L);
        w.pass(30);
        Checks.same("nothing without a balance", w.least(0, 0), 0L);
        Checks.same("nothing missing", w.missing(0), 0L);
        Checks.same("paid in full in time", w.paid(0, 0), 'w');
        w.pass(26);
        Checks.same("paid in full by nothing", w.paid(0, 0), 'f');
    }

    private static void dueDays() {
        StatementCycle x = house();
        x.buy(0, 'p', 10000);
        x.pass(30);
        Checks.same("not due", x.paid(0, 0), 'w');
        x.pass(25);
        Checks.same("its day has not been gone through", x.paid(0, 0), 'w');
        Checks.same("no fee yet", x.owed(0), 10000L);
        Checks.fails("none is due", ArithmeticException.class, () -> x.missedShare());
        x.pay(0, 2500);
        Checks.same("on the day", x.missing(0), 0L);
        x.pass(1);
        Checks.same("the least payment was paid", x.paid(0, 0), 'l');
        Checks.same("none missed", x.missed(0), 0);
        Checks.same("no fee", x.owed(0), 7500L);
        x.returns(0, 1);
        Checks.same("returned it was missed", x.paid(0, 0), 'm');
        Checks.same("one missed", x.missed(0), 1);
        Checks.same("both fees", x.owed(0), 10000L + 2900 + 2500);
        Checks.same("missing again", x.missing(0), 2500L);
        x.pay(0, 1000);
        Checks.same("missing less", x.missing(0), 1500L);
    }

    private static void lateFees() {
        StatementCycle x = house();
        x.setRate(0, 'p', 0);
        x.buy(0, 'p', 10000);
        x.pass(30);
        x.pass(26);
        Checks.same("2500", x.bucket(0, 'p'), 12500L);
        x.pass(30);
        Checks.same("3500 with one ahead", x.bucket(0, 'p'), 16000L);
        Checks.same("two missed", x.missed(0), 2);
    }

    private static void laterFeesSixBack() {
        Checks.same("one missed six ahead", feeBehind(5), 3500L);
        Checks.same("one missed seven ahead", feeBehind(6), 2500L);
    }

    /** The fee of a statement that is missed so many cycles, all paid, behind the first one, which was missed. */
    private static long feeBehind(int between) {
        StatementCycle x = house();
        x.setRate(0, 'p', 0);
        x.buy(0, 'p', 900000);
        x.pass(30);
        for (int i = 0; i < between; i++) {
            x.pass(30);
            x.pay(0, (int) x.missing(0));
        }
        x.pass(30);
        Checks.same("one missed till here", x.missed(0), 1);
        long before = x.bucket(0, 'p');
        x.pass(26);
        Checks.same("two missed now", x.missed(0), 2);
        return x.bucket(0, 'p') - before;
    }

    private static void writingOff() {
        StatementCycle x = house();
        x.buy(0, 'p', 100000);
        Checks.passTo(x, 205);
        Checks.same("five missed", x.missed(0), 5);
        Checks.same("not off", x.isOff(0), false);
        long before = x.owed(0);
        x.pass(1);
        Checks.same("six missed", x.missed(0), 6);
        Checks.same("off", x.isOff(0), true);
        Checks.same("no fee for it", x.owed(0), before);
        Checks.same("why", x.why(0, 'p', 1), 'x');
        Checks.fails("buy", UNSUPPORTED, () -> x.buy(0, 'p', 1));
        Checks.fails("plan", UNSUPPORTED, () -> x.plan(0));
        x.pass(4);
        long interest = (before * 25 * 2000 + 1825000) / 3650000;
        Checks.same("of 25 days", x.interest(0, 6), interest);
        Checks.same("no least payment", x.least(0, 6), 0L);
        Checks.same("none missing", x.missing(0), 0L);
        long owed = x.owed(0);
        x.buyOn(0, 'p', 500, 208);
        Checks.same("an earlier buy is owed", x.owed(0), owed + 500);
        Checks.passTo(x, 360);
        Checks.same("no interest behind it", x.owed(0), owed + 500);
        Checks.same("none missed behind it", x.missed(0), 6);
        Checks.same("the least payment of nothing was paid", x.paid(0, 6), 'l');
        x.reverse(0, 0);
        Checks.same("as if never told", x.isOff(0), false);
        Checks.that("sound", x.isSound());
    }

    private static void notMissedBetween() {
        StatementCycle x = house();
        x.buy(0, 'p', 100000);
        Checks.passTo(x, 180);
        x.pay(0, (int) x.missing(0));
        Checks.passTo(x, 206);
        Checks.same("the sixth was paid", x.paid(0, 5), 'l');
        Checks.passTo(x, 356);
        Checks.same("five and five", x.missed(0), 10);
        Checks.same("not off", x.isOff(0), false);
    }

    private static void plans() {
        StatementCycle first = house();
        Checks.same("a plan as the first event", first.plan(0), 0);
        Checks.fails("and no other", UNSUPPORTED, () -> first.plan(0));
        StatementCycle x = house();
        x.setRate(0, 'c', 3650);
        x.buy(0, 'c', 500000);
        x.pass(10);
        Checks.same("plan", x.plan(0), 2);
        Checks.same("kind", x.kindOf(0, 2), 'h');
        Checks.same("sum", x.sum(0, 2), 0);
        Checks.fails("one alone", UNSUPPORTED, () -> x.plan(0));
        x.pass(20);
        Checks.same("no interest from its day on", x.interest(0, 0), 5000L);
        payLeastTo(x, 190);
        Checks.same("none missed", x.missed(0), 0);
        Checks.same("2500 with a plan", x.least(0, 5), 2500L);
        Checks.same("no interest", x.interest(0, 5), 0L);
        long cash = x.bucket(0, 'c');
        x.pass(20);
        Checks.same("20 days of interest from the day 190 on", x.interest(0, 6), (cash * 20 + 500) / 1000);
        Checks.fails("no second one behind it", UNSUPPORTED, () -> x.plan(0));
        Checks.same("the balance at most", planOf(0, 500, 30).least(0, 0), 500L);
        Checks.same("a plan told on the day of closing is on on it", planOf(30, 500000, 30).least(0, 0), 2500L);
        Checks.same("a plan of the day behind", planOf(31, 500000, 31).least(0, 0), 5000L);
        Checks.same("its 180th day", planOf(31, 500000, 210).least(0, 6), 2500L);
        Checks.same("its 181st day", planOf(30, 500000, 210).least(0, 6) > 2500, true);
    }

    private static StatementCycle planOf(int day, int cents, int until) {
        StatementCycle x = house();
        x.setRate(0, 'p', 0);
        x.buy(0, 'p', cents);
        payLeastTo(x, day);
        x.plan(0);
        payLeastTo(x, until);
        return x;
    }

    private static void payLeastTo(StatementCycle x, int day) {
        payMissing(x);
        while (x.today() < day) {
            int closing = x.today() / 30 * 30 + 30;
            Checks.passTo(x, Math.min(day, closing));
            payMissing(x);
        }
    }

    private static void payMissing(StatementCycle x) {
        if (x.missing(0) > 0) {
            x.pay(0, (int) x.missing(0));
        }
    }

    private static void toldAndDifferent() {
        StatementCycle x = house();
        x.pass(29);
        x.open(1000);
        x.pass(1);
        x.open(1000);
        Checks.same("told to one opened the day before", x.told(1, 0), 0L);
        Checks.fails("not told to one opened on the day", NONE, () -> x.told(2, 0));
        Checks.fails("and no difference", NONE, () -> x.difference(2, 0));
        x.buyOn(2, 'p', 300, 3);
        Checks.same("but it is there", x.statement(2, 0), 300L);
        Checks.same("with its least payment", x.least(2, 0), 300L);
        x.buyOn(1, 'p', 200, 3);
        Checks.same("by now", x.statement(1, 0), 200L);
        Checks.same("as it was told", x.told(1, 0), 0L);
        Checks.same("the difference", x.difference(1, 0), 200L);
        x.pass(30);
        Checks.same("the next is told", x.told(2, 1), 300L + x.interest(2, 1) + 2500);
        x.reverse(2, 0);
        Checks.same("the difference of the next", x.difference(2, 1), -x.told(2, 1));
        Checks.that("sound", x.isSound());
    }
}
