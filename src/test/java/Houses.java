/** Houses that several tests begin with, each made by fewer than a hundred calls. */
final class Houses {
    private Houses() {
    }

    static StatementCycle empty() {
        return new StatementCycle();
    }

    /** One account of the highest limit. */
    static StatementCycle one() {
        StatementCycle x = new StatementCycle();
        x.open(9999999);
        return x;
    }

    /** On the day 58, two accounts; the first one has events of all kinds but a plan, which the second one has. */
    static StatementCycle used() {
        StatementCycle x = new StatementCycle();
        x.open(900000);
        x.open(20000);
        x.buy(0, 'p', 100000);
        x.buy(0, 'c', 50000);
        x.buy(0, 't', 20000);
        x.pay(0, 5000);
        x.pay(0, 100);
        x.returns(0, 4);
        x.setRate(0, 'p', 1900);
        x.promote(0, 300, 80);
        x.redeem(0, 10);
        x.buyOn(0, 'p', 700, 0);
        x.reverse(0, 9);
        x.buy(0, 'p', 800);
        x.dispute(0, 10);
        x.buy(0, 'p', 900);
        x.dispute(0, 11);
        x.buy(0, 'c', 1000);
        x.dispute(0, 12);
        x.setCurrency(2, 1);
        x.plan(1);
        x.buy(1, 'c', 3000);
        x.pass(30);
        x.settle(0, 11, false);
        x.settle(0, 12, true);
        x.pass(28);
        return x;
    }

    /** The used one, its first account with 60 events. */
    static StatementCycle full() {
        StatementCycle x = used();
        fill(x, 0);
        return x;
    }

    /** Two accounts, the first one with a plan, 60 events and no point. */
    static StatementCycle fullWithPlan() {
        StatementCycle x = one();
        x.open(5000);
        x.plan(0);
        fill(x, 0);
        return x;
    }

    /** The first account is written off. */
    static StatementCycle off() {
        StatementCycle x = one();
        x.open(5000);
        x.buy(0, 'p', 100000);
        Checks.passTo(x, 206);
        return x;
    }

    static StatementCycle offAndFull() {
        StatementCycle x = off();
        fill(x, 0);
        return x;
    }

    /** The used one on the day 360. */
    static StatementCycle atTheEnd() {
        StatementCycle x = used();
        Checks.passTo(x, 360);
        return x;
    }

    /** Four accounts with a buy each. */
    static StatementCycle four() {
        StatementCycle x = new StatementCycle();
        for (int a = 0; a < 4; a++) {
            x.open(1000 * a + 1000);
            x.buy(a, 'p', 10 * a + 10);
        }
        return x;
    }

    static void fill(StatementCycle x, int account) {
        while (x.events(account) < 60) {
            x.setRate(account, 'p', 1900);
        }
    }
}
