/** Promises 8 to 12, 19 to 21, 34 to 38: buys, payments, what comes of them, and why buys are declined. */
public final class BuysTest {
    private static final Class<IndexOutOfBoundsException> INDEX = IndexOutOfBoundsException.class;
    private static final Class<IllegalArgumentException> ARGUMENT = IllegalArgumentException.class;
    private static final Class<IllegalStateException> STATE = IllegalStateException.class;
    private static final Class<UnsupportedOperationException> DECLINED = UnsupportedOperationException.class;

    public static void main(String[] args) {
        buys();
        earlierBuys();
        abroad();
        payments();
        payingOrder();
        returning();
        creditIsTakenByBuysAlone();
        reasons();
        fullAccount();
        eventNumbers();
        Checks.end();
    }

    private static StatementCycle house(int limit) {
        StatementCycle x = new StatementCycle();
        x.open(limit);
        return x;
    }

    private static void buys() {
        StatementCycle x = house(1000000);
        Checks.same("buy", x.buy(0, 'p', 1), 0);
        Checks.same("buy of cash", x.buy(0, 'c', 200000), 1);
        Checks.same("buy of transfers", x.buy(0, 't', 70000), 2);
        Checks.same("bucket p", x.bucket(0, 'p'), 1L);
        Checks.same("bucket c", x.bucket(0, 'c'), 200000L);
        Checks.same("bucket t", x.bucket(0, 't'), 70000L);
        Checks.same("owed", x.owed(0), 270001L);
        Checks.same("up to the limit", x.buy(0, 'p', 729999), 3);
        Checks.fails("above the limit", DECLINED, () -> x.buy(0, 'p', 1));
        Checks.fails("no kind", ARGUMENT, () -> x.buy(0, 'b', 1));
        Checks.fails("no cent", ARGUMENT, () -> x.buy(0, 'p', 0));
        Checks.fails("too many cents", ARGUMENT, () -> x.buy(0, 'p', 1000000));
        Checks.fails("bucket of no kind", ARGUMENT, () -> x.bucket(0, 'x'));
        Checks.same("declined ones are no events", x.events(0), 4);
        Checks.same("owed at last", x.owed(0), 1000000L);
    }

    private static void earlierBuys() {
        StatementCycle x = house(0);
        Checks.fails("a day to come", ARGUMENT, () -> x.buyOn(0, 'p', 1, 1));
        Checks.fails("a day below 0", ARGUMENT, () -> x.buyOn(0, 'p', 1, -1));
        Checks.fails("no kind", ARGUMENT, () -> x.buyOn(0, 'z', 1, 0));
        Checks.fails("no cent", ARGUMENT, () -> x.buyOn(0, 'p', 0, 0));
        Checks.fails("too many cents", ARGUMENT, () -> x.buyOn(0, 'p', 1000000, 0));
        x.block(0, true);
        x.setRate(0, 'c', 3650);
        x.pass(20);
        Checks.same("it is not declined", x.buyOn(0, 'c', 100000, 0), 1);
        Checks.same("nor on the day of now", x.buyOn(0, 'c', 999999, 20), 2);
        x.reverse(0, 2);
        x.pass(10);
        Checks.same("interest from its day on", x.interest(0, 0), 3000L);
        Checks.same("another one behind", x.buyOn(0, 'c', 100000, 29), 3);
        Checks.same("interest of one day more", x.interest(0, 0), 3100L);
        Checks.same("and no event but a buy", x.kindOf(0, 3), 'b');
        // A buy of an earlier day goes ahead of a payment told before it.
        StatementCycle y = house(0);
        y.pass(5);
        y.pay(0, 1000);
        y.pass(5);
        y.buyOn(0, 'p', 700, 4);
        Checks.same("the payment is laid on it", y.credit(0), 300L);
        y.buyOn(0, 'p', 100, 5);
        Checks.same("behind the payment it takes of the credit", y.credit(0), 200L);
        Checks.same("nothing is owed", y.bucket(0, 'p'), 0L);
        // It is owed from its day on, though it is told behind the first event.
        StatementCycle z = house(0);
        z.pass(5);
        z.pay(0, 100000);
        z.buyOn(0, 'c', 100000, 0);
        Checks.same("all paid", z.owed(0), 0L);
        z.pass(25);
        Checks.same("five days of interest", z.interest(0, 0), 342L);
    }

    private static void abroad() {
        StatementCycle x = house(9999999);
        Checks.same("1000 at first", x.abroad(0, 0, 100), 0);
        Checks.same("three hundredths more", x.sum(0, 0), 103);
        Checks.same("a purchase", x.bucket(0, 'p'), 103L);
        Checks.same("its points", x.points(0), 1L);
        x.setCurrency(3, 1500);
        x.abroad(0, 3, 1);
        Checks.same("half a cent up", x.sum(0, 1), 2);
        x.setCurrency(3, 1499);
        x.abroad(0, 3, 1);
        Checks.same("less than half a cent down", x.sum(0, 2), 1);
        x.abroad(0, 0, 66);
        Checks.same("the fee is cut", x.sum(0, 3), 67);
        x.setCurrency(3, 99999);
        x.abroad(0, 3, 9999);
        Checks.same("the most", x.sum(0, 4), 999890 + 29996);
        Checks.same("it stays as it was told", x.sum(0, 1), 2);
        Checks.same("kind", x.kindOf(0, 4), 'b');
        x.setCurrency(2, 1);
        Checks.fails("of no cent", DECLINED, () -> x.abroad(0, 2, 499));
        Checks.same("of one cent", x.abroad(0, 2, 500), 5);
        Checks.fails("no such currency", ARGUMENT, () -> x.abroad(0, 4, 1));
        Checks.fails("no such currency below", ARGUMENT, () -> x.abroad(0, -1, 1));
        Checks.fails("no unit", ARGUMENT, () -> x.abroad(0, 0, 0));
        Checks.fails("too many units", ARGUMENT, () -> x.abroad(0, 0, 10000));
        x.setLimit(0, (int) x.owed(0) + 102);
        Checks.fails("declined with its fee", DECLINED, () -> x.abroad(0, 0, 100));
        Checks.same("just below", x.abroad(0, 0, 99), 6);
        Checks.same("cents of it", x.sum(0, 6), 101);
    }

    private static void payments() {
        StatementCycle x = house(9999999);
        Checks.same("pay", x.pay(0, 9999999), 0);
        Checks.same("credit", x.credit(0), 9999999L);
        Checks.same("owed below 0", x.owed(0), -9999999L);
        Checks.same("kind", x.kindOf(0, 0), 'y');
        Checks.same("sum", x.sum(0, 0), 9999999);
        Checks.fails("nothing", ARGUMENT, () -> x.pay(0, 0));
        Checks.fails("below nothing", ARGUMENT, () -> x.pay(0, -1));
        Checks.fails("too much", ARGUMENT, () -> x.pay(0, 10000000));
        Checks.same("collected", x.collected(), 9999999L);
    }

    private static void payingOrder() {
        // Ahead of any statement all is laid by falling rates: cash of 2500, then p and t of like rates.
        StatementCycle x = house(9999999);
        x.buy(0, 't', 1000);
        x.buy(0, 'p', 1000);
        x.buy(0, 'c', 1000);
        x.pay(0, 1500);
        Checks.same("cash first", x.bucket(0, 'c'), 0L);
        Checks.same("then purchases", x.bucket(0, 'p'), 500L);
        Checks.same("then transfers", x.bucket(0, 't'), 1000L);
        x.setRate(0, 't', 2501);
        Checks.same("the rate of the day turns it, transfers", x.bucket(0, 't'), 0L);
        Checks.same("the rate of the day turns it, cash", x.bucket(0, 'c'), 500L);
        Checks.same("the rate of the day turns it, purchases", x.bucket(0, 'p'), 1000L);
        x.promote(0, 0, 1);
        Checks.same("a promotion turns it back", x.bucket(0, 't'), 1000L);
        Checks.same("a promotion turns it back, cash", x.bucket(0, 'c'), 0L);

        // With a least payment of 2500 missing, so much is laid by rising rates.
        StatementCycle y = house(9999999);
        y.setRate(0, 'p', 0);
        y.setRate(0, 'c', 0);
        y.setRate(0, 't', 0);
        y.buy(0, 'p', 2000);
        y.buy(0, 'c', 2000);
        y.buy(0, 't', 2000);
        y.pass(30);
        y.setRate(0, 'p', 30);
        y.setRate(0, 'c', 20);
        y.setRate(0, 't', 10);
        y.pay(0, 2400);
        Checks.same("transfers have the lowest rate", y.bucket(0, 't'), 0L);
        Checks.same("cash is next", y.bucket(0, 'c'), 1600L);
        Checks.same("purchases are last", y.bucket(0, 'p'), 2000L);
        Checks.same("100 are missing", y.missing(0), 100L);
        y.pay(0, 600);
        Checks.same("100 of it by rising rates", y.bucket(0, 'c'), 1500L);
        Checks.same("500 of it by falling ones", y.bucket(0, 'p'), 1500L);
        Checks.same("nothing is missing", y.missing(0), 0L);
        y.setRate(0, 'p', 10);
        y.setRate(0, 'c', 10);
        // All of like rates now: both orders are p, c, t.
        Checks.same("like rates, purchases", y.bucket(0, 'p'), 0L);
        Checks.same("like rates, cash", y.bucket(0, 'c'), 1000L);
        Checks.same("like rates, transfers", y.bucket(0, 't'), 2000L);
        y.pay(0, 5000);
        Checks.same("what is left is credit", y.credit(0), 2000L);

        // Also behind the day on which it is due.
        StatementCycle z = house(9999999);
        z.setRate(0, 'c', 0);
        z.setRate(0, 'p', 1);
        z.buy(0, 'c', 10000);
        z.buy(0, 'p', 10000);
        z.pass(30);
        z.pass(26);
        Checks.same("it was missed", z.paid(0, 0), 'm');
        Checks.same("still missing", z.missing(0), 2500L);
        z.pay(0, 2600);
        Checks.same("cash of the lower rate", z.bucket(0, 'c'), 7500L);
        Checks.same("the rest on purchases with their fee", z.bucket(0, 'p'), 12400L);
    }

    private static void returning() {
        StatementCycle x = house(9999999);
        x.buy(0, 'p', 5000);
        x.pay(0, 3000);
        x.pass(3);
        Checks.same("returns", x.returns(0, 1), 2);
        Checks.same("taken back", x.isBack(0, 1), true);
        Checks.same("the fee is not", x.isBack(0, 2), false);
        Checks.same("kind of the fee", x.kindOf(0, 2), 'f');
        Checks.same("sum of the fee", x.sum(0, 2), 2900);
        Checks.same("the sum of the payment stays", x.sum(0, 1), 3000);
        Checks.same("owed", x.owed(0), 7900L);
        Checks.same("collected", x.collected(), 0L);
        Checks.fails("again", DECLINED, () -> x.returns(0, 1));
        Checks.fails("of a buy", DECLINED, () -> x.returns(0, 0));
        Checks.fails("of a fee", DECLINED, () -> x.returns(0, 2));
        Checks.fails("of no event", INDEX, () -> x.returns(0, 3));
        Checks.fails("of no event below", INDEX, () -> x.returns(0, -1));
        x.pass(27);
        // 78 cents of balance and the fee of the cycle: 2978.
        Checks.same("its fee is in the least payment", x.least(0, 0), 79L + 2900);
        x.pass(30);
        Checks.same("but not in the next one", x.least(0, 1), x.statement(0, 1) / 100 + x.interest(0, 1) + 2500);
    }

    private static void creditIsTakenByBuysAlone() {
        StatementCycle x = house(9999999);
        x.setRate(0, 'c', 3650);
        x.pay(0, 1000);
        x.pay(0, 50);
        x.returns(0, 2);
        Checks.same("a fee takes nothing of the credit", x.credit(0), 1000L);
        Checks.same("it is owed", x.bucket(0, 'p'), 2900L);
        Checks.same("less the credit", x.owed(0), 1900L);
        x.buy(0, 't', 400);
        Checks.same("a buy does", x.credit(0), 600L);
        Checks.same("nothing is owed of it", x.bucket(0, 't'), 0L);
        x.buy(0, 'c', 100600);
        Checks.same("all of it", x.credit(0), 0L);
        Checks.same("the rest is owed", x.bucket(0, 'c'), 100000L);
        x.pay(0, 200000);
        Checks.same("credit again", x.credit(0), 97100L);
        StatementCycle y = house(9999999);
        y.setRate(0, 'c', 3650);
        y.buy(0, 'c', 100000);
        y.pass(29);
        y.pay(0, 150000);
        y.pass(1);
        Checks.same("interest takes nothing of it", y.credit(0), 50000L);
        Checks.same("it is owed in cash", y.bucket(0, 'c'), 2900L);
        Checks.same("the balance is below 0", y.statement(0, 0), -47100L);
        Checks.same("and nothing is to be paid", y.least(0, 0), 0L);
    }

    private static void reasons() {
        StatementCycle x = house(1000);
        Checks.same("none", x.why(0, 'p', 1000), '-');
        Checks.same("none of them", x.reasons(0, 'p', 1000), 0);
        Checks.same("none of the least", x.reasons(0, 'p', 1), 0);
        Checks.same("limit", x.why(0, 'p', 1001), 'l');
        Checks.same("one", x.reasons(0, 't', 1001), 1);
        Checks.same("a fifth in cash", x.why(0, 'c', 200), '-');
        Checks.same("above a fifth", x.why(0, 'c', 201), 'c');
        Checks.same("only of cash", x.why(0, 't', 201), '-');
        Checks.same("both", x.reasons(0, 'c', 1001), 2);
        Checks.same("the limit goes ahead", x.why(0, 'c', 1001), 'l');
        x.setLimit(0, 1004);
        Checks.same("the fifth is cut", x.why(0, 'c', 201), 'c');
        x.setLimit(0, 1005);
        Checks.same("the fifth is 201", x.why(0, 'c', 201), '-');
        x.block(0, true);
        Checks.same("blocked", x.why(0, 'c', 999999), 'b');
        Checks.same("three", x.reasons(0, 'c', 999999), 3);
        Checks.fails("a blocked buy", DECLINED, () -> x.buy(0, 'p', 1));
        Checks.fails("a blocked buy abroad", DECLINED, () -> x.abroad(0, 0, 1));
        x.block(0, false);
        x.pay(0, 500);
        Checks.same("the credit takes of cash", x.why(0, 'c', 701), '-');
        Checks.same("the rest alone counts", x.why(0, 'c', 702), 'c');
        Checks.same("the credit counts for the limit", x.why(0, 'p', 1505), '-');
        Checks.same("and no more", x.why(0, 'p', 1506), 'l');
        x.buyOn(0, 'c', 800, 0);
        x.setLimit(0, 1000);
        Checks.same("cash is full", x.why(0, 'c', 1), 'c');
        x.pay(0, 500);
        Checks.same("credit of 200 takes it", x.why(0, 'c', 200), '-');
        StatementCycle y = house(100000);
        y.setRate(0, 'c', 3650);
        y.buyOn(0, 'c', 100000, 0);
        y.pass(29);
        y.pay(0, 150000);
        y.pass(1);
        y.setLimit(0, 14500);
        Checks.same("the bucket of cash is just full", y.bucket(0, 'c'), 2900L);
        Checks.same("the credit takes all", y.why(0, 'c', 50000), '-');
        Checks.same("the credit takes all but one", y.why(0, 'c', 50001), 'c');
        Checks.fails("why of no kind", ARGUMENT, () -> x.why(0, 'x', 1));
        Checks.fails("why of nothing", ARGUMENT, () -> x.why(0, 'p', 0));
        Checks.fails("why of too much", ARGUMENT, () -> x.why(0, 'p', 1000000));
        Checks.fails("reasons of no kind", ARGUMENT, () -> x.reasons(0, 'x', 1));
        Checks.fails("reasons of nothing", ARGUMENT, () -> x.reasons(0, 'p', 0));
        Checks.fails("reasons of too much", ARGUMENT, () -> x.reasons(0, 'p', 1000000));
    }

    private static void fullAccount() {
        StatementCycle x = house(1000);
        x.buy(0, 'p', 500);
        x.pay(0, 10);
        while (x.events(0) < 60) {
            x.setRate(0, 'p', 1);
        }
        long checksum = x.checksum();
        Checks.fails("buy", STATE, () -> x.buy(0, 'p', 1));
        Checks.fails("a declined buy", DECLINED, () -> x.buy(0, 'p', 1000));
        Checks.fails("a buy of nothing", ARGUMENT, () -> x.buy(0, 'p', 0));
        Checks.fails("buyOn", STATE, () -> x.buyOn(0, 'p', 1, 0));
        Checks.fails("abroad", STATE, () -> x.abroad(0, 0, 1));
        Checks.fails("a declined one abroad", DECLINED, () -> x.abroad(0, 0, 1000));
        Checks.fails("pay", STATE, () -> x.pay(0, 1));
        Checks.fails("returns", STATE, () -> x.returns(0, 1));
        Checks.fails("returns of a buy", DECLINED, () -> x.returns(0, 0));
        Checks.fails("plan", STATE, () -> x.plan(0));
        Checks.fails("redeem", STATE, () -> x.redeem(0, 5));
        Checks.fails("redeem too many", DECLINED, () -> x.redeem(0, 6));
        Checks.same("nothing changed", x.checksum(), checksum);
        Checks.same("the payment has not returned", x.isBack(0, 1), false);
        Checks.same("a dispute is no event", x.dispute(0, 0), 1);
        Checks.same("nor a reversal", x.settle(0, 0, true), -10L);
        Checks.same("events", x.events(0), 60);
    }

    private static void eventNumbers() {
        StatementCycle x = house(1000);
        x.buy(0, 'p', 5);
        for (int event : new int[] {-1, 1, 60, Integer.MIN_VALUE}) {
            Checks.fails("kindOf", INDEX, () -> x.kindOf(0, event));
            Checks.fails("isBack", INDEX, () -> x.isBack(0, event));
            Checks.fails("sum", INDEX, () -> x.sum(0, event));
        }
        Checks.same("kind", x.kindOf(0, 0), 'b');
        Checks.same("back", x.isBack(0, 0), false);
        Checks.same("sum", x.sum(0, 0), 5);
    }
}
