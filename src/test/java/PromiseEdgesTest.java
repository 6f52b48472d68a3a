/** The promises at the last numbers that are fine, in the empty house and in the full one. */
public final class PromiseEdgesTest {
    public static void main(String[] args) {
        emptyHouse();
        houseWithoutEvents();
        finestNumbers();
        sixtiethEvent();
        fullHouse();
        mostThatCanBeOwed();
        buysOfSomeDay();
        creditToTheCent();
        lateFeeTakesNoCredit();
        abroadToTheCent();
        worthForAll();
        pointsOfHundreds();
        orderOfLaying();
        missingToTheCent();
        missingOfTheLastOne();
        returnedOnALaterDay();
        frozenCount();
        allReasons();
        limitsToTheCent();
        blockedAlone();
        nothingElseRefuses();
        toldOnce();
        sharesAndMeans();
        Checks.end();
    }

    private static void emptyHouse() {
        StatementCycle x = new StatementCycle();
        Checks.same("the day", x.today(), 0);
        Checks.same("collected", x.collected(), 0L);
        Checks.same("checksum", x.checksum(), 31L * 7);
        Checks.that("sound", x.isSound());
        Checks.same("days go by without an account", x.pass(30), 30);
        Checks.passTo(x, 360);
        Checks.same("checksum of the last day", x.checksum(), 31L * 7 + 360);
        Checks.that("sound on the last day", x.isSound());
        Checks.same("an account of the last day", x.open(0), 0);
        Checks.same("its last statement", x.statement(0, 11), 0L);
        Checks.same("statements ahead of it are due", x.missedShare(), 0f);
    }

    private static void houseWithoutEvents() {
        StatementCycle x = Houses.four();
        StatementCycle y = new StatementCycle();
        y.open(0);
        for (char kind : "pct".toCharArray()) {
            Checks.same("bucket " + kind, y.bucket(0, kind), 0L);
            Checks.same("a limit of 0 declines a cent", y.why(0, kind, 1), 'l');
            Checks.same("for as many reasons", y.reasons(0, kind, 1), kind == 'c' ? 2 : 1);
        }
        Checks.same("owed", y.owed(0), 0L);
        Checks.same("credit", y.credit(0), 0L);
        Checks.same("missing", y.missing(0), 0L);
        Checks.same("missed", y.missed(0), 0);
        Checks.same("off", y.isOff(0), false);
        Checks.same("points", y.points(0), 0L);
        Checks.same("events", y.events(0), 0);
        Checks.same("mean", y.meanOwed(), 0.0);
        Checks.same("blocked", y.block(0, false), false);
        Checks.same("the accounts are apart", x.owed(3) - x.owed(0), 30L);
    }

    /** Each parameter at both ends of its range. */
    private static void finestNumbers() {
        StatementCycle x = new StatementCycle();
        Checks.same("open(0)", x.open(0), 0);
        Checks.same("open(9999999)", x.open(9999999), 1);
        Checks.same("setLimit(9999999)", x.setLimit(0, 9999999), 0);
        Checks.same("setLimit(0)", x.setLimit(1, 0), 9999999);
        Checks.same("setLimit again", x.setLimit(1, 9999999), 0);
        int event = 0;
        for (char kind : "pct".toCharArray()) {
            Checks.same("setRate 0", x.setRate(0, kind, 0), event++);
            Checks.same("setRate 9999", x.setRate(0, kind, 9999), event++);
            Checks.same("buy of 1", x.buy(0, kind, 1), event++);
            Checks.same("buy of 999999", x.buy(0, kind, 999999), event++);
            Checks.same("sum of 999999", x.sum(0, event - 1), 999999);
            Checks.same("buyOn of 1", x.buyOn(0, kind, 1, 0), event++);
            Checks.same("buyOn of 999999", x.buyOn(0, kind, 999999, 0), event++);
            Checks.same("why of 1", x.why(1, kind, 1), '-');
            Checks.same("why of 999999", x.why(1, kind, 999999), '-');
            Checks.same("reasons of 1", x.reasons(1, kind, 1), 0);
            Checks.same("reasons of 999999", x.reasons(1, kind, 999999), 0);
            Checks.same("bucket " + kind, x.bucket(0, kind), 2000000L);
        }
        Checks.same("promote 0 for 1", x.promote(0, 0, 1), event++);
        Checks.same("promote 9999 for 360", x.promote(0, 9999, 360), event++);
        Checks.same("pay 1", x.pay(0, 1), event++);
        Checks.same("pay 9999999", x.pay(0, 9999999), event++);
        Checks.same("redeem 1", x.redeem(0, 1), event++);
        for (int currency = 0; currency < 4; currency++) {
            Checks.same("setCurrency 1", x.setCurrency(currency, 1), 1000);
            Checks.same("setCurrency 99999", x.setCurrency(currency, 99999), 1);
            Checks.same("abroad 1", x.abroad(0, currency, 1), event++);
            Checks.same("sum of 1", x.sum(0, event - 1), 103);
            Checks.same("abroad 9999", x.abroad(1, currency, 9999), currency);
            Checks.same("sum of 9999", x.sum(1, currency), 1029886);
        }
        Checks.same("pass 1", x.pass(1), 1);
        Checks.same("pass 30", x.pass(30), 31);
    }

    private static StatementCycle withEvents(int count) {
        StatementCycle x = Houses.one();
        x.buy(0, 'p', 500);
        x.pay(0, 100);
        while (x.events(0) < count) {
            x.setRate(0, 'p', 2000);
        }
        return x;
    }

    private static void sixtieth(String what, Checks.Ask ask) {
        StatementCycle x = withEvents(59);
        Checks.same(what + " as the sixtieth event", ask.of(x), 59);
        Checks.same("events then", x.events(0), 60);
        Checks.fails("one more", IllegalStateException.class, () -> x.pay(0, 1));
        Checks.same("events still", x.events(0), 60);
        Checks.fails(what + " as the next one", IllegalStateException.class, () -> ask.of(withEvents(60)));
        StatementCycle y = withEvents(60);
        long before = y.checksum();
        Checks.answer(() -> ask.of(y));
        Checks.same(what + " that was refused", y.checksum(), before);
    }

    /** "At most 60, numbered from 0 as they were told". */
    private static void sixtiethEvent() {
        sixtieth("setRate", x -> x.setRate(0, 'c', 1));
        sixtieth("promote", x -> x.promote(0, 1, 1));
        sixtieth("buy", x -> x.buy(0, 'p', 1));
        sixtieth("buyOn", x -> x.buyOn(0, 'p', 1, 0));
        sixtieth("abroad", x -> x.abroad(0, 0, 1));
        sixtieth("pay", x -> x.pay(0, 1));
        sixtieth("returns", x -> x.returns(0, 1));
        sixtieth("plan", x -> x.plan(0));
        sixtieth("redeem", x -> x.redeem(0, 5));
    }

    private static void fullHouse() {
        StatementCycle x = new StatementCycle();
        long sum = 7;
        for (int a = 0; a < 4; a++) {
            Checks.same("account", x.open(9999999), a);
            for (int e = 0; e < 60; e++) {
                Checks.same("event", x.pay(a, 9999999), e);
            }
            Checks.same("all of it is credit", x.credit(a), 599999940L);
            sum = ((sum * 31 * 31 * 31) * 31 + 599999940L) * 31 * 31;
        }
        Checks.same("more than an int holds", x.collected(), 2399999760L);
        Checks.same("the mean", x.meanOwed(), -599999940.0);
        Checks.same("the checksum wraps", x.checksum(), sum * 31);
        Checks.that("sound", x.isSound());
        Checks.fails("no fifth account", IllegalStateException.class, () -> x.open(0));
        Checks.same("a limit is above what is owed", x.reasons(3, 'c', 999999), 0);
    }

    private static void mostThatCanBeOwed() {
        StatementCycle x = Houses.one();
        x.setRate(0, 'c', 9999);
        for (int e = 1; e < 60; e++) {
            x.buyOn(0, 'c', 999999, 0);
        }
        long cash = 59L * 999999;
        Checks.same("owed", x.owed(0), cash);
        x.pass(30);
        long interest = (cash * 30 * 9999 + 1825000) / 3650000;
        Checks.same("its interest", x.interest(0, 0), interest);
        Checks.same("its least payment", x.least(0, 0), (cash + interest) / 100 + interest);
        Checks.passTo(x, 360);
        Checks.that("sound on the last day", x.isSound());
        Checks.same("written off", x.isOff(0), true);
    }

    /** "Tells a buy of an earlier day, or of today, which is not declined." */
    private static void buysOfSomeDay() {
        StatementCycle x = Houses.atTheEnd();
        Checks.same("the last day", x.buyOn(0, 'p', 100, 360), 13);
        Checks.same("behind the last statement", x.difference(0, 11), 0L);
        Checks.same("the day ahead of it", x.buyOn(0, 'p', 100, 359), 14);
        Checks.same("in the last statement", x.difference(0, 11), 100L);
        StatementCycle y = new StatementCycle();
        y.open(0);
        y.block(0, true);
        Checks.same("blocked and above the limit", y.reasons(0, 'c', 100), 3);
        Checks.same("not declined on the day 0", y.buyOn(0, 'c', 100, 0), 0);
        y.pass(1);
        Checks.same("nor on the day 1", y.buyOn(0, 'c', 100, 1), 1);
        StatementCycle z = Houses.off();
        long owed = z.owed(0);
        Checks.same("nor when written off", z.buyOn(0, 't', 100, 206), 1);
        Checks.same("it is owed", z.owed(0), owed + 100);
        // A buy of an earlier day that was declined then is not asked for again.
        StatementCycle w = Houses.four();
        w.pass(10);
        Checks.same("above the limit of its account", w.buyOn(0, 'p', 999999, 5), 1);
    }

    private static void creditAfter(int cents, long credit, long owed) {
        StatementCycle x = Houses.one();
        x.pay(0, 100);
        x.buy(0, 't', cents);
        Checks.same("credit of 100 behind a buy of " + cents, x.credit(0), credit);
        Checks.same("owed of it", x.bucket(0, 't'), owed);
    }

    /** "A buy first takes of the credit what there is, and the rest is owed in the bucket of its kind". */
    private static void creditToTheCent() {
        creditAfter(1, 99, 0);
        creditAfter(99, 1, 0);
        creditAfter(100, 0, 0);
        creditAfter(101, 0, 1);
        StatementCycle x = Houses.one();
        x.pay(0, 103);
        x.abroad(0, 0, 100);
        Checks.same("abroad takes of it, with its fee", x.credit(0), 0L);
        Checks.same("and owes nothing", x.owed(0), 0L);
        StatementCycle y = Houses.one();
        y.buy(0, 'p', 100);
        for (int cents : new int[] {99, 1, 1}) {
            y.pay(0, cents);
        }
        Checks.same("a cent more than is owed is credit", y.credit(0), 1L);
        Checks.same("and nothing is owed", y.bucket(0, 'p'), 0L);
    }

    /** "Fees and interest take nothing of it", late fees too. */
    private static void lateFeeTakesNoCredit() {
        StatementCycle x = Houses.one();
        x.buy(0, 'p', 999999);
        x.pay(0, 999999);
        x.buy(0, 'p', 3000);
        x.pass(30);
        x.redeem(0, 5000);
        Checks.same("redeemed points are credit", x.credit(0), 2000L);
        Checks.same("but the least payment is missing", x.missing(0), 2500L);
        Checks.passTo(x, 56);
        Checks.same("missed", x.paid(0, 0), 'm');
        Checks.same("the credit stays", x.credit(0), 2000L);
        Checks.same("the fee is owed", x.bucket(0, 'p'), 2500L);
        Checks.same("owed less the credit", x.owed(0), 500L);
    }

    /** "Sets what a unit of a currency is worth": for all accounts, those opened later too. */
    private static void worthForAll() {
        StatementCycle x = Houses.one();
        for (int currency = 0; currency < 4; currency++) {
            x.setCurrency(currency, 10000 * currency + 10000);
        }
        x.open(9999999);
        x.pass(1);
        for (int currency = 0; currency < 4; currency++) {
            for (int a = 0; a < 2; a++) {
                int event = x.abroad(a, currency, 10);
                Checks.same("currency " + currency + " of " + a, x.sum(a, event), 103 * currency + 103);
            }
        }
    }

    private static int sumAbroad(int worth, int units) {
        StatementCycle x = Houses.one();
        x.setCurrency(3, worth);
        x.abroad(0, 3, units);
        x.setCurrency(3, 77777);
        Checks.same("purchases of it", x.bucket(0, 'p'), (long) x.sum(0, 0));
        return x.sum(0, 0);
    }

    /** "Their product, divided by 1000, to the nearest cent, half a one up, and 3 hundredths of that, cut, more". */
    private static void abroadToTheCent() {
        Checks.same("0.5", sumAbroad(500, 1), 1);
        Checks.same("1.499", sumAbroad(1499, 1), 1);
        Checks.same("1.5", sumAbroad(1500, 1), 2);
        Checks.same("2.5", sumAbroad(500, 5), 3);
        Checks.same("2.499", sumAbroad(2499, 1), 2);
        Checks.same("33", sumAbroad(1000, 33), 33);
        Checks.same("33.4", sumAbroad(33400, 1), 33);
        Checks.same("33.5", sumAbroad(33500, 1), 35);
        Checks.same("34", sumAbroad(1000, 34), 35);
        Checks.same("66.499", sumAbroad(66499, 1), 67);
        Checks.same("66.6", sumAbroad(66600, 1), 69);
        Checks.same("100", sumAbroad(1, 9999) + sumAbroad(10000, 10), 10 + 103);
        Checks.same("the most", sumAbroad(99999, 9999), 1029886);
    }

    private static long pointsOf(char kind, int cents) {
        StatementCycle x = Houses.one();
        x.buy(0, kind, cents);
        return x.points(0);
    }

    /** "A purchase gives a point for each 100 cents, cut". */
    private static void pointsOfHundreds() {
        Checks.same("99", pointsOf('p', 99), 0L);
        Checks.same("100", pointsOf('p', 100), 1L);
        Checks.same("199", pointsOf('p', 199), 1L);
        Checks.same("200", pointsOf('p', 200), 2L);
        Checks.same("999999", pointsOf('p', 999999), 9999L);
        Checks.same("cash", pointsOf('c', 999999), 0L);
        Checks.same("transfers", pointsOf('t', 999999), 0L);
        StatementCycle y = Houses.one();
        y.pay(0, 500);
        y.buy(0, 'p', 300);
        Checks.same("300 that the credit takes", y.points(0), 3L);
        StatementCycle x = Houses.one();
        x.abroad(0, 0, 97);
        Checks.same("99 abroad", x.points(0), 0L);
        x.abroad(0, 0, 98);
        Checks.same("100 abroad", x.points(0), 1L);
        x.buyOn(0, 'p', 250, 0);
        x.dispute(0, 2);
        Checks.same("a frozen one has them", x.points(0), 3L);
        x.redeem(0, 3);
        Checks.same("all redeemed", x.points(0), 0L);
        x.settle(0, 2, true);
        Checks.same("below 0", x.points(0), -2L);
        Checks.same("what was redeemed stays", x.kindOf(0, 3) == 'd' && !x.isBack(0, 3), true);
        x.buyOn(0, 'p', 200, 0);
        Checks.same("0 again", x.points(0), 0L);
        Checks.fails("none of 0", UnsupportedOperationException.class, () -> x.redeem(0, 1));
    }

    /** "By rising rates, the rest by falling rates, of that day, of like ones in the order p, c, t". */
    private static void orderOfLaying() {
        for (int combination = 0; combination < 27; combination++) {
            int[] rates = {combination % 3, combination / 3 % 3, combination / 9};
            laid("falling", rates, false);
            laid("rising", rates, true);
        }
    }

    /** 1500 cents are laid on buckets of 1000 each: all of the first one, and half of the second. */
    private static void laid(String what, int[] rates, boolean isRising) {
        StatementCycle x = Houses.one();
        x.buy(0, 't', 1000);
        x.buy(0, 'c', 1000);
        x.buy(0, 'p', 1000);
        for (int b = 0; b < 3; b++) {
            x.setRate(0, "pct".charAt(b), 0);
        }
        if (isRising) {
            x.pass(30);
            Checks.same("missing", x.missing(0), 2500L);
        }
        // The payment goes ahead of the rates of its day, which count all the same.
        x.pay(0, 1500);
        for (int b = 0; b < 3; b++) {
            x.setRate(0, "pct".charAt(b), rates[b]);
        }
        for (int b = 0; b < 3; b++) {
            int ahead = 0;
            for (int other = 0; other < 3; other++) {
                boolean isAhead = isRising ? rates[other] < rates[b] : rates[other] > rates[b];
                ahead += isAhead || (rates[other] == rates[b] && other < b) ? 1 : 0;
            }
            String told = what + " rates " + rates[0] + rates[1] + rates[2] + ", bucket " + b;
            Checks.same(told, x.bucket(0, "pct".charAt(b)), 500L * ahead);
        }
    }

    /** Purchases have the lowest rate, transfers the highest, and 2500 of the least payment are missing. */
    private static StatementCycle withMissing(int purchases) {
        StatementCycle x = Houses.one();
        for (char kind : "pct".toCharArray()) {
            x.setRate(0, kind, 0);
        }
        x.buy(0, 'p', purchases);
        x.buy(0, 'c', 10000);
        x.buy(0, 't', 10000);
        x.pass(30);
        x.setRate(0, 'c', 10);
        x.setRate(0, 't', 20);
        return x;
    }

    private static void paidOf(int purchases, int cents, long p, long c, long t, long missing) {
        StatementCycle x = withMissing(purchases);
        x.pay(0, cents);
        String what = cents + " paid with purchases of " + purchases;
        Checks.same(what + ", p", x.bucket(0, 'p'), p);
        Checks.same(what + ", c", x.bucket(0, 'c'), c);
        Checks.same(what + ", t", x.bucket(0, 't'), t);
        Checks.same(what + ", missing", x.missing(0), missing);
    }

    /** "As much as is still missing ... what was paid since it was closed being counted". */
    private static void missingToTheCent() {
        paidOf(10000, 1, 9999, 10000, 10000, 2499);
        paidOf(10000, 2499, 7501, 10000, 10000, 1);
        paidOf(10000, 2500, 7500, 10000, 10000, 0);
        paidOf(10000, 2501, 7500, 10000, 9999, 0);
        paidOf(1000, 2500, 0, 8500, 10000, 0);
        paidOf(1000, 2501, 0, 8500, 9999, 0);
        paidOf(1000, 12501, 0, 8499, 0, 0);
        StatementCycle x = withMissing(10000);
        x.pay(0, 2499);
        x.pay(0, 2);
        Checks.same("a cent on purchases", x.bucket(0, 'p'), 7500L);
        Checks.same("a cent on transfers", x.bucket(0, 't'), 9999L);
        StatementCycle y = withMissing(10000);
        Checks.passTo(y, 56);
        y.pay(0, 2501);
        Checks.same("also behind the day on which it is due", y.bucket(0, 'p'), 10000L);
        Checks.same("and a cent on transfers", y.bucket(0, 't'), 9999L);
        StatementCycle z = withMissing(10000);
        z.buy(0, 'p', 100);
        z.redeem(0, 100);
        Checks.same("redeemed points are laid by falling rates", z.bucket(0, 't'), 9900L);
        Checks.same("and are not counted as paid", z.missing(0), 2500L);
    }

    /** "Of the least payment of the last statement". */
    private static void missingOfTheLastOne() {
        StatementCycle x = Houses.one();
        x.setRate(0, 'p', 0);
        x.buy(0, 'p', 100000);
        x.pass(29);
        Checks.same("without a statement", x.missing(0), 0L);
        x.pass(1);
        Checks.same("of the first", x.missing(0), 2500L);
        x.pass(29);
        Checks.same("of the first still", x.missing(0), 2500L);
        x.pay(0, 2400);
        Checks.same("less what was paid", x.missing(0), 100L);
        x.pass(1);
        Checks.same("of the second alone", x.missing(0), x.least(0, 1));
        Checks.same("with the fee", x.least(0, 1), 1001L + 2500);
        x.pay(0, 3500);
        Checks.same("a cent", x.missing(0), 1L);
        x.pay(0, 5000);
        Checks.same("never below 0", x.missing(0), 0L);
    }

    private static void returnedOnALaterDay() {
        StatementCycle x = Houses.one();
        x.setRate(0, 'p', 0);
        x.buy(0, 'p', 10000);
        Checks.passTo(x, 40);
        x.pay(0, 10000);
        Checks.passTo(x, 70);
        Checks.same("paid in full", x.paid(0, 0), 'f');
        Checks.same("the next one", x.statement(0, 1), 0L);
        Checks.same("returns", x.returns(0, 2), 3);
        Checks.same("missed by now", x.paid(0, 0), 'm');
        Checks.same("the late fee is of the cycle then", x.statement(0, 1), 12500L);
        Checks.same("the difference", x.difference(0, 1), 12500L);
        Checks.same("told stays", x.told(0, 1), 0L);
        Checks.same("a hundredth and the late fee", x.least(0, 1), 2625L);
        Checks.same("the fee of the return is of now", x.owed(0), 15400L);
        Checks.passTo(x, 90);
        Checks.same("with the next late fee", x.statement(0, 2), 18900L);
        Checks.same("both are fees of the cycle", x.least(0, 2), 189L + 2900 + 3500);
        Checks.same("grace is lost", x.hadGrace(0, 1), false);
    }

    /** "Returns how many buys are frozen then." */
    private static void frozenCount() {
        StatementCycle x = Houses.one();
        x.open(1000);
        x.buy(1, 'p', 5);
        x.dispute(1, 0);
        for (int e = 0; e < 60; e++) {
            x.buy(0, "pct".charAt(e % 3), 1);
        }
        for (int e = 0; e < 30; e++) {
            Checks.same("frozen with " + e, x.dispute(0, e), e + 1);
        }
        for (int e = 0; e < 10; e++) {
            Checks.same("owed with " + e + " settled", x.settle(0, e, false), 60L);
        }
        Checks.same("the lost ones are not frozen", x.dispute(0, 30), 21);
        Checks.same("owed with one won", x.settle(0, 10, true), 59L);
        Checks.same("nor the won one", x.dispute(0, 31), 21);
        for (int e = 32; e < 60; e++) {
            Checks.same("frozen with " + e, x.dispute(0, e), e - 10);
        }
    }

    /** 'x', 'b', 'l' and 'c' "in this order", all of them together. */
    private static void allReasons() {
        for (int set = 0; set < 16; set++) {
            StatementCycle x = (set & 1) != 0 ? Houses.off() : Houses.one();
            if (x.owed(0) > 0) {
                x.pay(0, (int) x.owed(0));
            }
            x.block(0, (set & 2) != 0);
            x.setLimit(0, 1000);
            char kind = (set & 8) != 0 ? 'c' : 'p';
            int cents = (set & 4) != 0 ? 1001 : (set & 8) != 0 ? 201 : 1000;
            char first = (set & 1) != 0 ? 'x' : (set & 2) != 0 ? 'b' : (set & 4) != 0 ? 'l' : (set & 8) != 0 ? 'c' : '-';
            Checks.same("why of " + set, x.why(0, kind, cents), first);
            Checks.same("reasons of " + set, x.reasons(0, kind, cents), Integer.bitCount(set));
            boolean isDeclined = Checks.answer(() -> x.buy(0, kind, cents)) instanceof String;
            Checks.same("declined of " + set, isDeclined, set != 0);
        }
    }

    /** "Blocks an account": that one, and buys alone are declined for it. */
    private static void blockedAlone() {
        StatementCycle x = Houses.four();
        x.block(1, true);
        for (int a = 0; a < 4; a++) {
            Checks.same("account " + a, x.why(a, 'p', 1), a == 1 ? 'b' : '-');
        }
        x.block(2, true);
        x.block(1, false);
        for (int a = 0; a < 4; a++) {
            Checks.same("then account " + a, x.why(a, 'p', 1), a == 2 ? 'b' : '-');
        }
    }

    /** Written off, blocked and above its limit, an account refuses buys of today and a plan, and nothing else. */
    private static void nothingElseRefuses() {
        StatementCycle x = Houses.off();
        x.block(0, true);
        x.setLimit(0, 0);
        Checks.same("all reasons", x.reasons(0, 'c', 1), 4);
        Checks.same("setRate", x.setRate(0, 'p', 1), 1);
        Checks.same("promote", x.promote(0, 1, 1), 2);
        Checks.same("buyOn", x.buyOn(0, 'c', 300, 206), 3);
        Checks.same("pay", x.pay(0, 200), 4);
        Checks.same("returns", x.returns(0, 4), 5);
        Checks.same("redeem", x.redeem(0, 100), 6);
        Checks.same("dispute", x.dispute(0, 3), 1);
        long owed = x.owed(0);
        Checks.same("settle", x.settle(0, 3, false), owed);
        Checks.same("reverse", x.reverse(0, 3), owed - 300);
        Checks.same("pass", x.pass(1), 207);
        Checks.same("owed", x.owed(0), owed - 300);
        Checks.same("the first buy", x.reverse(0, 0), 2900L - 100);
        Checks.same("without it, nothing was missed", x.isOff(0), false);
        Checks.same("a plan, though blocked", x.plan(0), 7);
        Checks.same("setLimit", x.setLimit(0, 2801), 0);
        Checks.same("block", x.block(0, false), true);
        Checks.same("a buy again", x.buy(0, 'p', 1), 8);
    }

    /** "Above the limit", "above a fifth of the limit, cut". */
    private static void limitsToTheCent() {
        StatementCycle x = Houses.one();
        x.buy(0, 'c', 999999);
        x.buy(0, 'c', 999999);
        Checks.same("a fifth of the highest limit", x.why(0, 'c', 1), '-');
        Checks.same("a cent above", x.why(0, 'c', 2), 'c');
        for (int limit = 1000; limit < 1011; limit++) {
            StatementCycle y = new StatementCycle();
            y.open(limit);
            Checks.same("a fifth of " + limit, y.why(0, 'c', limit / 5), '-');
            Checks.same("a cent above a fifth of " + limit, y.why(0, 'c', limit / 5 + 1), 'c');
            Checks.same("the limit " + limit, y.why(0, 't', limit), '-');
            Checks.same("a cent above " + limit, y.why(0, 't', limit + 1), 'l');
            Checks.same("abroad above a fifth", y.abroad(0, 0, 900), 0);
            Checks.same("the rest", y.buy(0, 'p', limit - 927), 1);
            Checks.same("and no cent more", y.why(0, 'p', 1), 'l');
        }
        StatementCycle z = new StatementCycle();
        z.open(1000);
        z.pay(0, 9999999);
        Checks.same("credit counts in both", z.reasons(0, 'c', 999999), 0);
        cashAboveItsFifth();
        StatementCycle w = new StatementCycle();
        w.open(1000);
        w.buy(0, 'c', 200);
        w.setLimit(0, 100);
        Checks.same("a limit below what is owed", w.reasons(0, 'c', 1), 2);
        Checks.same("nothing of it is taken back", w.owed(0), 200L);
    }

    /** Credit takes of the buy alone, not of what is owed in the bucket of cash by interest. */
    private static void cashAboveItsFifth() {
        StatementCycle x = Houses.one();
        x.buy(0, 'c', 365000);
        x.pass(29);
        x.pay(0, 400000);
        x.pass(1);
        Checks.same("interest in cash", x.bucket(0, 'c'), 7250L);
        Checks.same("credit besides", x.credit(0), 35000L);
        x.setLimit(0, 5 * 7250);
        Checks.same("cash just at its fifth", x.why(0, 'c', 35000), '-');
        Checks.same("a cent that the credit does not take", x.why(0, 'c', 35001), 'c');
        x.setLimit(0, 5 * 7250 - 1);
        Checks.same("cash above its fifth", x.why(0, 'c', 1), 'c');
        Checks.same("no less with credit", x.reasons(0, 'c', 35000), 1);
    }

    /** "As a day comes on which a cycle is closed, the balance of the statement is told, and that is kept". */
    private static void toldOnce() {
        StatementCycle x = Houses.one();
        x.buy(0, 'c', 365000);
        x.pass(29);
        x.pass(30);
        Checks.same("told on the way", x.told(0, 0), 372500L);
        x.pass(1);
        long second = x.told(0, 1);
        Checks.same("the next one", second, x.statement(0, 1));
        x.buyOn(0, 't', 100, 29);
        x.buyOn(0, 'p', 1000, 30);
        Checks.same("kept", x.told(0, 0), 372500L);
        Checks.same("by now", x.statement(0, 0), 372600L);
        Checks.same("the difference", x.difference(0, 0), 100L);
        Checks.same("the next one is kept", x.told(0, 1), second);
        x.reverse(0, 0);
        Checks.same("below 0", x.difference(0, 0), -372400L);
        x.pass(30);
        Checks.same("kept still", x.told(0, 0), 372500L);
        Checks.same("told as it is by then", x.difference(0, 2), 0L);
    }

    private static void sharesAndMeans() {
        StatementCycle x = new StatementCycle();
        for (int a = 0; a < 3; a++) {
            x.open(1000000);
        }
        x.buy(0, 'p', 10000);
        Checks.same("a mean of three", x.meanOwed(), 10000.0 / 3.0);
        x.pay(1, 10001);
        Checks.same("a mean below 0", x.meanOwed(), -1.0 / 3.0);
        Checks.passTo(x, 56);
        Checks.same("a third missed", x.missedShare(), 1f / 3f);
        x.buyOn(2, 'p', 10000, 0);
        Checks.same("two thirds by now", x.missedShare(), 2f / 3f);
        x.buyOn(1, 'p', 10002, 0);
        Checks.same("all by now", x.missedShare(), 1f);
    }
}
