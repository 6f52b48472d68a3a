/** Promises 13 to 15: disputes, their ends, and reversals. */
public final class DisputesTest {
    private static final Class<IndexOutOfBoundsException> INDEX = IndexOutOfBoundsException.class;
    private static final Class<UnsupportedOperationException> UNSUPPORTED = UnsupportedOperationException.class;

    public static void main(String[] args) {
        disputes();
        frozenDays();
        frozenMoreThanOwed();
        wonIsAsIfNeverTold();
        reversals();
        numbers();
        Checks.end();
    }

    private static StatementCycle house() {
        StatementCycle x = new StatementCycle();
        x.open(9999999);
        x.setRate(0, 'c', 3650);
        return x;
    }

    private static void disputes() {
        StatementCycle x = house();
        x.buy(0, 'c', 1000);
        x.buy(0, 'p', 2000);
        x.abroad(0, 0, 100);
        x.pay(0, 10);
        x.open(9999999);
        x.buy(1, 'p', 50);
        Checks.same("one", x.dispute(0, 1), 1);
        Checks.same("two", x.dispute(0, 2), 2);
        Checks.same("those of the account", x.dispute(1, 0), 1);
        Checks.fails("again", UNSUPPORTED, () -> x.dispute(0, 2));
        Checks.fails("a rate", UNSUPPORTED, () -> x.dispute(0, 0));
        Checks.fails("a payment", UNSUPPORTED, () -> x.dispute(0, 4));
        Checks.same("owed does not change", x.owed(0), 3093L);
        Checks.same("lost", x.settle(0, 2, false), 3093L);
        Checks.fails("settled twice", UNSUPPORTED, () -> x.settle(0, 2, true));
        Checks.fails("disputed twice", UNSUPPORTED, () -> x.dispute(0, 2));
        Checks.same("two again", x.dispute(0, 3), 2);
        Checks.same("won", x.settle(0, 1, true), 2093L);
        Checks.same("taken back", x.isBack(0, 1), true);
        Checks.same("a lost one is not", x.isBack(0, 2), false);
        Checks.fails("a won one", UNSUPPORTED, () -> x.settle(0, 1, false));
        Checks.fails("dispute of a won one", UNSUPPORTED, () -> x.dispute(0, 1));
        Checks.fails("not disputed", UNSUPPORTED, () -> x.settle(0, 0, true));
        Checks.fails("a payment is not frozen", UNSUPPORTED, () -> x.settle(0, 4, true));
        Checks.same("no event of it", x.events(0), 5);
    }

    private static void frozenDays() {
        StatementCycle x = house();
        x.buy(0, 'c', 100000);
        x.buy(0, 'c', 100000);
        x.pass(5);
        x.dispute(0, 1);
        x.pass(10);
        x.settle(0, 1, false);
        x.pass(15);
        // 100 a day each, and ten days less of one.
        Checks.same("frozen from the day on till it is settled", x.interest(0, 0), 6000L - 1000);
        StatementCycle y = house();
        y.buy(0, 'c', 100000);
        y.pass(7);
        y.dispute(0, 1);
        y.settle(0, 1, false);
        y.pass(23);
        Checks.same("settled on its day", y.interest(0, 0), 3000L);
        StatementCycle z = house();
        z.buy(0, 'c', 100000);
        z.setRate(0, 'p', 0);
        z.pass(7);
        z.dispute(0, 1);
        z.pass(23);
        Checks.same("not settled yet", z.interest(0, 0), 700L);
        Checks.same("it is in the balance", z.statement(0, 0), 100700L);
        z.setRate(0, 't', 3650);
        z.buy(0, 't', 10000);
        z.pass(30);
        // 0.7 a day of the interest in cash, and 10 a day of transfers.
        Checks.same("of its bucket alone", z.interest(0, 1), 321L);
    }

    private static void frozenMoreThanOwed() {
        StatementCycle x = house();
        x.buy(0, 'c', 100000);
        x.buy(0, 'c', 50000);
        x.pay(0, 120000);
        x.dispute(0, 1);
        x.pass(30);
        Checks.same("0 at least", x.interest(0, 0), 0L);
        StatementCycle y = house();
        y.pay(0, 60000);
        y.buy(0, 'c', 100000);
        y.buy(0, 'c', 100000);
        y.dispute(0, 2);
        y.pass(30);
        Checks.same("frozen as much as it is, not what was owed of it", y.interest(0, 0), 1200L);
    }

    private static void wonIsAsIfNeverTold() {
        StatementCycle x = house();
        x.buy(0, 'c', 100000);
        x.buy(0, 'c', 50000);
        x.pass(10);
        x.dispute(0, 1);
        x.pass(20);
        Checks.same("with it", x.interest(0, 0), 1500L + 1000);
        Checks.same("won", x.settle(0, 1, true), 51500L);
        Checks.same("without it", x.interest(0, 0), 1500L);
        Checks.same("told", x.told(0, 0), 152500L);
        Checks.same("difference", x.difference(0, 0), 51500L - 152500);
    }

    private static void reversals() {
        StatementCycle x = house();
        x.buy(0, 'p', 1000);
        x.pay(0, 300);
        Checks.same("reverse", x.reverse(0, 1), -300L);
        Checks.same("credit", x.credit(0), 300L);
        Checks.same("points", x.points(0), 0L);
        Checks.fails("again", UNSUPPORTED, () -> x.reverse(0, 1));
        Checks.fails("a payment", UNSUPPORTED, () -> x.reverse(0, 2));
        Checks.fails("a rate", UNSUPPORTED, () -> x.reverse(0, 0));
        x.buy(0, 'c', 5000);
        x.dispute(0, 3);
        Checks.fails("a frozen one", UNSUPPORTED, () -> x.reverse(0, 3));
        x.pass(10);
        x.settle(0, 3, false);
        Checks.same("a lost one", x.reverse(0, 3), -300L);
        Checks.fails("dispute of a reversed one", UNSUPPORTED, () -> x.dispute(0, 3));
    }

    private static void numbers() {
        StatementCycle x = house();
        for (int event : new int[] {-1, 1, 60, Integer.MAX_VALUE}) {
            Checks.fails("dispute", INDEX, () -> x.dispute(0, event));
            Checks.fails("settle", INDEX, () -> x.settle(0, event, true));
            Checks.fails("reverse", INDEX, () -> x.reverse(0, event));
        }
    }
}
