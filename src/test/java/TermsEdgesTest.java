import java.util.NoSuchElementException;

/**
 * The sentences of "Terms" that name an edge: the last number that is fine, and the first one on either side that is
 * not. A sum of 365000 cents accrues a tenth of its rate in cents a day: 250 cash, 200 transfers and purchases.
 */
public final class TermsEdgesTest {
    private static final int DAILY = 365000;

    public static void main(String[] args) {
        cyclesOfThirtyDays();
        daysThatAccrue();
        accruesBesideCredit();
        closingGoesAheadOfEvents();
        eventsOfADayInTheOrderOfTheirNumbers();
        daysOnWhichStatementsAreDue();
        dueBehindEventsAheadOfAccruing();
        firstRates();
        ratesOnBothSides();
        rateOfADay();
        promotionDays();
        lastPromotionAlone();
        promotionGoesAhead();
        halfACentUp();
        graceCycles();
        daysThatCountAsPaid();
        inFullToTheCent();
        paidTooMuch();
        leastToTheCent();
        leastWithFees();
        lateFeeOfSixAhead();
        sixthMissed();
        sixInTheMiddle();
        writtenOffDay();
        writtenOffAndDue();
        planDays();
        planAndMissed();
        planOnTheDayOfClosing();
        frozenDays();
        frozenAtLeastNothing();
        frozenTogether();
        Checks.end();
    }

    private static StatementCycle house() {
        return Houses.one();
    }

    private static StatementCycle freePurchases() {
        StatementCycle x = house();
        x.setRate(0, 'p', 0);
        return x;
    }

    private static long atRate(long centDays, long rate) {
        return rounded(centDays * rate);
    }

    private static long rounded(long accrued) {
        return (accrued + 1825000) / 3650000;
    }

    /** "A cycle is of 30 days, the cycle 0 from the day 0 on", and "the day ... goes on to 360". */
    private static void cyclesOfThirtyDays() {
        StatementCycle x = house();
        for (int c = 0; c < 12; c++) {
            int cycle = c;
            Checks.passTo(x, 30 * c + 29);
            Checks.fails("cycle " + c + " on the day ahead", NoSuchElementException.class, () -> x.statement(0, cycle));
            Checks.fails("told of " + c + " on the day ahead", NoSuchElementException.class, () -> x.told(0, cycle));
            x.pass(1);
            Checks.same("cycle " + c + " on its day", x.statement(0, c), 0L);
            Checks.same("told of " + c + " on its day", x.told(0, c), 0L);
        }
        Checks.same("the last day", x.today(), 360);
    }

    /** "From the day 0 to that of now, on which it goes just as far as its events". */
    private static void daysThatAccrue() {
        StatementCycle x = house();
        x.pass(30);
        for (int day = 0; day <= 30; day++) {
            int e = x.buyOn(0, 'c', DAILY, day);
            long interest = (30 - day) * 250L;
            Checks.same("interest of cash from the day " + day, x.interest(0, 0), interest);
            Checks.same("balance with it", x.statement(0, 0), day < 30 ? DAILY + interest : 0L);
            Checks.same("cash then", x.bucket(0, 'c'), DAILY + interest);
            x.reverse(0, e);
        }
        StatementCycle y = house();
        y.pass(29);
        y.buy(0, 'c', DAILY);
        Checks.same("nothing accrues on the day of now", y.owed(0), (long) DAILY);
        y.pass(1);
        Checks.same("one day has", y.owed(0), DAILY + 250L);
        y.pass(29);
        Checks.same("it is not owed within a cycle", y.bucket(0, 'c'), DAILY + 250L);
        y.pass(1);
        Checks.same("30 days have", y.bucket(0, 'c'), DAILY + 250 + atRate((DAILY + 250L) * 30, 2500));
    }

    /** "Each bucket accrues what is owed in it": the credit lessens nothing of that. */
    private static void accruesBesideCredit() {
        StatementCycle x = freePurchases();
        x.buy(0, 'c', DAILY);
        Checks.passTo(x, 29);
        x.pay(0, DAILY + 1000);
        Checks.passTo(x, 60);
        Checks.same("the interest took nothing of the credit", x.credit(0), 1000L);
        Checks.same("interest of the interest", x.interest(0, 1), atRate(29 * 250L * 30, 2500));
    }

    /** "First, on a day that begins a cycle, the cycle ahead of it is closed. Then its events are gone through." */
    private static void closingGoesAheadOfEvents() {
        StatementCycle x = house();
        x.buy(0, 'p', 10000);
        x.pass(30);
        x.buy(0, 'p', 700);
        x.pay(0, 100);
        x.returns(0, 2);
        x.pay(0, 30);
        Checks.same("no event of the day is in the balance", x.statement(0, 0), 10000L);
        Checks.same("nor the fee in the least payment", x.least(0, 0), 2500L);
        Checks.same("the payment counts for it", x.missing(0), 2470L);
        x.pay(0, 2470);
        Checks.same("to the last cent", x.missing(0), 0L);
        x.pass(30);
        long balance = x.statement(0, 1);
        Checks.same("all of it is in the next one", balance - x.interest(0, 1), 10000L + 700 - 30 + 2900 - 2470);
        Checks.same("with the fee", x.least(0, 1), balance / 100 + x.interest(0, 1) + 2900);
        StatementCycle y = house();
        y.buy(0, 'p', 10000);
        y.pass(29);
        y.pay(0, 100);
        y.returns(0, 1);
        y.pass(1);
        Checks.same("the fee of the day ahead is in", y.least(0, 0), 12900L / 100 + 2900);
    }

    /** "On each day in the order of their numbers". */
    private static void eventsOfADayInTheOrderOfTheirNumbers() {
        StatementCycle x = house();
        x.buy(0, 'p', 100);
        x.pay(0, 300);
        x.buy(0, 'c', 50);
        Checks.same("credit of a payment behind", x.credit(0), 150L);
        x.pass(5);
        x.buyOn(0, 'c', 100, 0);
        Checks.same("a buy of that day behind them", x.credit(0), 50L);
        x.pay(0, 1000);
        x.buyOn(0, 't', 60, 4);
        Checks.same("a buy of the day ahead of the payment", x.credit(0), 990L);
        Checks.same("owes nothing", x.owed(0), -990L);
        x.buyOn(0, 't', 1000, 5);
        Checks.same("a buy of its day is behind it", x.credit(0), 0L);
        Checks.same("and owes the rest", x.bucket(0, 't'), 10L);
    }

    /** "On the days 55, 85 and so on, which are 25 behind the beginning of a cycle". */
    private static void daysOnWhichStatementsAreDue() {
        StatementCycle x = house();
        Checks.passTo(x, 26);
        Checks.fails("none on the day 25", ArithmeticException.class, () -> x.missedShare());
        for (int c = 0; c <= 10; c++) {
            Checks.passTo(x, 30 * c + 54);
            Checks.same("statement " + c + " on the day ahead", x.paid(0, c), 'w');
            x.pass(1);
            Checks.same("statement " + c + " on its day", x.paid(0, c), 'w');
            x.pass(1);
            Checks.same("statement " + c + " behind its day", x.paid(0, c), 'f');
        }
        Checks.passTo(x, 360);
        Checks.same("statement 10 on the last day", x.paid(0, 10), 'f');
        Checks.same("statement 11 on the last day", x.paid(0, 11), 'w');
        Checks.same("none missed", x.missedShare(), 0f);
        StatementCycle y = house();
        y.buy(0, 'p', 1000);
        Checks.passTo(y, 56);
        Checks.same("one is due", y.missedShare(), 1f);
        Checks.passTo(y, 60);
        y.pay(0, (int) y.owed(0));
        Checks.passTo(y, 85);
        Checks.same("one is due on the day 85", y.missedShare(), 1f);
        Checks.same("one missed", y.missed(0), 1);
        y.pass(1);
        Checks.same("two are due", y.missedShare(), 0.5f);
    }

    /** "Then its events are gone through. Then ... the statement ... is due. Then each bucket accrues". */
    private static void dueBehindEventsAheadOfAccruing() {
        StatementCycle x = house();
        x.buy(0, 'p', 10000);
        Checks.passTo(x, 55);
        Checks.same("no fee on the day itself", x.owed(0), 10000L);
        x.pass(1);
        Checks.same("a fee behind it", x.owed(0), 12500L);
        x.pass(4);
        Checks.same("it accrues from the day 55 on", x.interest(0, 1), atRate(10000 * 25 + 12500 * 5, 2000));
        StatementCycle y = house();
        y.buy(0, 'p', 10000);
        Checks.passTo(y, 55);
        y.pay(0, 2500);
        y.pass(1);
        Checks.same("paid on the day itself", y.paid(0, 0), 'l');
        StatementCycle z = house();
        z.buy(0, 'p', 10000);
        Checks.passTo(z, 56);
        z.pay(0, 2500);
        Checks.same("paid on the day behind", z.paid(0, 0), 'm');
        Checks.same("but not missing any more", z.missing(0), 0L);
    }

    /** "2000, 2500 and 2000 at first". */
    private static void firstRates() {
        Checks.same("purchases", interestOf('p', -1), atRate((DAILY + 1) * 25L + (DAILY + 2501) * 5L, 2000));
        Checks.same("cash", interestOf('c', -1), 7500L);
        Checks.same("transfers", interestOf('t', -1), 6000L);
    }

    /** The interest of 30 days of a bucket, at the rate that it has or is given; of purchases with a fee of 2500. */
    private static long interestOf(char kind, int rate) {
        StatementCycle x = house();
        if (rate >= 0) {
            x.setRate(0, kind, rate);
        }
        if (kind != 'p') {
            x.buy(0, kind, DAILY);
            x.pass(30);
            return x.interest(0, 0);
        }
        // A cent that is never paid takes the grace of the cycle 1.
        x.buy(0, 'p', 1);
        x.pass(30);
        x.buy(0, 'p', DAILY);
        x.pass(30);
        return x.interest(0, 1);
    }

    /** "A rate, 0 to 9999 hundredths of a percent a year". */
    private static void ratesOnBothSides() {
        for (int rate : new int[] {0, 1, 9999}) {
            Checks.same("purchases at " + rate, interestOf('p', rate), atRate((DAILY + 1) * 25L + (DAILY + 2501) * 5L, rate));
            Checks.same("cash at " + rate, interestOf('c', rate), 3L * rate);
            Checks.same("transfers at " + rate, interestOf('t', rate), 3L * rate);
            StatementCycle x = house();
            x.promote(0, rate, 30);
            x.buy(0, 't', DAILY);
            x.pass(30);
            Checks.same("a promotion of " + rate, x.interest(0, 0), 3L * rate);
        }
    }

    /** "The rate of a day is what comes of all changes up to and with that day, whatever their order on it". */
    private static void rateOfADay() {
        StatementCycle x = house();
        x.setRate(0, 'c', 1000);
        x.buy(0, 'c', DAILY);
        x.pass(10);
        x.setRate(0, 'c', 9999);
        x.setRate(0, 'c', 0);
        x.pass(20);
        Checks.same("a rate begins on its day", x.interest(0, 0), 10 * 100L);
        StatementCycle y = house();
        y.buy(0, 'c', 1000);
        y.buy(0, 't', 1000);
        y.pass(1);
        y.pay(0, 600);
        y.setRate(0, 't', 2500);
        Checks.same("of like rates cash is ahead", y.bucket(0, 'c'), 400L);
        y.setRate(0, 't', 2501);
        Checks.same("a rate told behind a payment of its day", y.bucket(0, 't'), 400L);
        y.setRate(0, 't', 2500);
        Checks.same("the last one of a day", y.bucket(0, 'c'), 400L);
        y.pass(1);
        y.setRate(0, 't', 9999);
        Checks.same("a rate of a later day", y.bucket(0, 'c'), 400L);
        y.pay(0, 100);
        Checks.same("lays later payments", y.bucket(0, 't'), 900L);
    }

    private static long promoted(int from, int days, int until) {
        StatementCycle x = house();
        x.buy(0, 't', DAILY);
        Checks.passTo(x, from);
        x.promote(0, 0, days);
        Checks.passTo(x, until);
        return x.interest(0, until / 30 - 1);
    }

    /** "1 to 360, so many days from the day of now on, that one counted". */
    private static void promotionDays() {
        Checks.same("a day", promoted(0, 1, 30), 29 * 200L);
        Checks.same("two days", promoted(0, 2, 30), 28 * 200L);
        Checks.same("29 days", promoted(0, 29, 30), 200L);
        Checks.same("30 days", promoted(0, 30, 30), 0L);
        Checks.same("5 days from the day 10 on", promoted(10, 5, 30), 25 * 200L);
        Checks.same("from the day ahead of closing on", promoted(29, 1, 30), 29 * 200L);
        Checks.same("from the day of closing on", promoted(30, 1, 30), 30 * 200L);
        StatementCycle x = house();
        x.promote(0, 0, 360);
        x.buy(0, 't', DAILY);
        for (int c = 0; c < 12; c++) {
            x.pass(30);
            x.pay(0, (int) Math.max(1, x.missing(0)));
            Checks.same("360 days, cycle " + c, x.interest(0, c), 0L);
        }
        StatementCycle y = house();
        y.setRate(0, 'p', 0);
        y.buy(0, 'p', 900000);
        y.promote(0, 0, 359);
        y.buy(0, 't', DAILY);
        for (int c = 0; c < 12; c++) {
            y.pass(30);
            Checks.same("359 days, cycle " + c, y.interest(0, c), c < 11 ? 0L : rounded(y.bucket(0, 't') * 2000));
            // Like rates are served p ahead of t, so no transfer is paid.
            y.pay(0, (int) Math.max(1, y.missing(0)));
        }
    }

    /** "The last one told alone counts, also when it is over". */
    private static void lastPromotionAlone() {
        StatementCycle x = house();
        x.buy(0, 't', DAILY);
        x.promote(0, 0, 100);
        x.pass(10);
        x.promote(0, 1000, 1);
        x.pass(20);
        Checks.same("the first one does not come back", x.interest(0, 0), 100L + 19 * 200);
        StatementCycle y = house();
        y.buy(0, 't', DAILY);
        y.promote(0, 0, 100);
        y.promote(0, 1000, 1);
        y.pass(30);
        Checks.same("the last one of a day", y.interest(0, 0), 100L + 29 * 200);
        StatementCycle z = house();
        z.buy(0, 't', DAILY);
        z.promote(0, 1000, 5);
        z.pass(10);
        z.promote(0, 0, 360);
        z.pass(20);
        Checks.same("a later one does not change days ahead of it", z.interest(0, 0), 5 * 100L + 5 * 200);
        StatementCycle w = house();
        w.buy(0, 't', DAILY);
        w.pass(10);
        w.promote(0, 0, 5);
        w.pass(20);
        // A change lets the days be gone through once more, from those ahead of the promotion on.
        w.reverse(0, w.buyOn(0, 'p', 1, 0));
        Checks.same("nor when asked again", w.interest(0, 0), 25 * 200L);
    }

    /** "While it is on, it goes ahead of other rates of transfers, whenever told". */
    private static void promotionGoesAhead() {
        StatementCycle x = house();
        x.setRate(0, 't', 3000);
        x.buy(0, 't', DAILY);
        x.promote(0, 1000, 10);
        x.setRate(0, 't', 4000);
        x.pass(5);
        x.setRate(0, 't', 5000);
        x.pass(4);
        Checks.same("on its last day it is on", x.bucket(0, 't'), (long) DAILY);
        x.pass(1);
        x.pass(10);
        x.setRate(0, 't', 0);
        x.pass(10);
        Checks.same("then the last rate told", x.interest(0, 0), 10 * 100L + 10 * 500);
        StatementCycle y = house();
        y.buy(0, 'c', DAILY);
        y.promote(0, 0, 30);
        y.pass(30);
        Checks.same("of transfers alone", y.interest(0, 0), 7500L);
    }

    /** "Divided by 3650000, to the nearest cent, half a one up". */
    private static void halfACentUp() {
        Checks.same("1824999", interestOfCash(608333, 3, 0), 0L);
        Checks.same("1825000", interestOfCash(182500, 10, 0), 1L);
        Checks.same("3650000", interestOfCash(365000, 10, 0), 1L);
        Checks.same("5474999", interestOfCash(182499, 30, 1), 1L);
        Checks.same("5475000", interestOfCash(182500, 30, 0), 2L);
        StatementCycle x = house();
        x.setRate(0, 'c', 1);
        x.setRate(0, 't', 1);
        x.buy(0, 'c', 60000);
        x.buy(0, 't', 60000);
        x.pass(30);
        Checks.same("each bucket alone, 1800000", x.interest(0, 0), 0L);
        eachCycleAlone();
        frozenAccruesNothing();
    }

    /** "What it accrued in the cycle": nothing is left over from the one ahead. */
    private static void eachCycleAlone() {
        StatementCycle x = house();
        x.setRate(0, 'c', 0);
        x.pass(30);
        x.setRate(0, 'c', 1);
        x.buy(0, 'c', 608333);
        x.pass(3);
        x.setRate(0, 'c', 0);
        x.pass(27);
        Checks.same("1824999 in the second cycle", x.interest(0, 1), 0L);
        StatementCycle y = house();
        y.setRate(0, 'c', 1);
        y.buy(0, 'c', 60000);
        Checks.passTo(y, 60);
        Checks.same("1800000 in the first one", y.interest(0, 0), 0L);
        Checks.same("and as much in the second one", y.bucket(0, 'c'), 60000L);
    }

    /** "Less what is frozen of it, 0 at least": not a cent a day, which would be half a cent here. */
    private static void frozenAccruesNothing() {
        StatementCycle x = house();
        x.setRate(0, 'c', 1);
        x.buy(0, 'c', 608333);
        x.pass(3);
        x.dispute(0, 1);
        x.pass(27);
        Checks.same("1824999 and 27 frozen days", x.interest(0, 0), 0L);
        x.settle(0, 1, true);
        Checks.same("a won one is as if never told", x.statement(0, 0), 0L);
        StatementCycle y = house();
        y.buy(0, 'c', DAILY);
        y.buy(0, 'c', DAILY);
        y.dispute(0, 0);
        y.pass(30);
        y.settle(0, 0, true);
        Checks.same("nor does a won one freeze another", y.interest(0, 0), 7500L);
        StatementCycle z = house();
        z.buy(0, 'c', DAILY);
        z.buy(0, 'c', DAILY);
        z.dispute(0, 0);
        z.pass(30);
        z.settle(0, 0, false);
        Checks.same("as a lost one did", z.interest(0, 0), 7500L);
        z.reverse(0, 0);
        Checks.same("till it is reversed", z.interest(0, 0), 7500L);
        Checks.same("and its balance", z.statement(0, 0), DAILY + 7500L);
    }

    /** The interest of cash at a rate of 1 for so many days, and of so many cents more from the day 1 on. */
    private static long interestOfCash(int cents, int days, int more) {
        StatementCycle x = house();
        x.setRate(0, 'c', 1);
        x.buy(0, 'c', cents);
        x.pass(1);
        if (more > 0) {
            x.buy(0, 'c', more);
        }
        Checks.passTo(x, days);
        x.setRate(0, 'c', 0);
        Checks.passTo(x, 30);
        return x.interest(0, 0);
    }

    /** "A cycle has grace if the statements of the two cycles ahead of it, as far as there are any, were paid in full". */
    private static void graceCycles() {
        for (int pattern = 0; pattern < 32; pattern++) {
            StatementCycle x = house();
            x.buy(0, 'p', 10000);
            boolean[] full = new boolean[5];
            for (int c = 0; c < 5; c++) {
                x.pass(30);
                full[c] = (pattern >> c & 1) == 1;
                x.pay(0, (int) x.statement(0, c) - (full[c] ? 0 : 1));
                x.buy(0, 'p', 10000);
            }
            x.pass(30);
            for (int c = 0; c < 6; c++) {
                boolean grace = (c < 1 || full[c - 1]) && (c < 2 || full[c - 2]);
                Checks.same("pattern " + pattern + ", grace of " + c, x.hadGrace(0, c), grace);
                Checks.same("pattern " + pattern + ", interest of " + c, x.interest(0, c) == 0, grace);
                if (c < 5) {
                    Checks.same("pattern " + pattern + ", statement " + c, x.paid(0, c), full[c] ? 'f' : 'l');
                }
            }
        }
    }

    /** How it went with a balance of 5000 at least, of which a part was paid on one day, and another on a second one. */
    private static char paidOn(int day, int cents, int day2, int cents2) {
        StatementCycle x = house();
        x.buy(0, 'p', 5000);
        Checks.passTo(x, day);
        x.pay(0, cents);
        Checks.passTo(x, day2);
        x.pay(0, cents2);
        Checks.passTo(x, 57);
        return x.paid(0, 0);
    }

    /** "What was paid since they were closed, up to and with the day on which they are due". */
    private static void daysThatCountAsPaid() {
        Checks.same("on the day of closing and that of being due", paidOn(30, 2500, 55, 2500), 'f');
        Checks.same("a cent on the day behind", paidOn(30, 4999, 56, 1), 'l');
        Checks.same("all of the least payment but a cent", paidOn(55, 2499, 56, 1), 'm');
        Checks.same("the least payment in two parts", paidOn(30, 2499, 55, 1), 'l');
        // 2000 is the balance then, and the least payment too.
        Checks.same("the day ahead of closing does not count", paidOn(29, 3000, 55, 1999), 'm');
        Checks.same("but the balance is less", paidOn(29, 3000, 55, 2000), 'f');
    }

    /** "What was paid since they were closed": what was paid too much for one statement counts for that one alone. */
    private static void paidTooMuch() {
        StatementCycle x = freePurchases();
        x.buy(0, 'p', 10000);
        x.pass(30);
        x.pay(0, 20000);
        x.buy(0, 'p', 15000);
        x.pass(30);
        Checks.same("balance with 10000 paid too much", x.statement(0, 1), 5000L);
        Checks.same("its least payment", x.missing(0), 2500L);
        x.pass(26);
        Checks.same("the first one", x.paid(0, 0), 'f');
        Checks.same("the second one", x.paid(0, 1), 'm');
    }

    private static char paidAll(int balance, int cents) {
        StatementCycle x = house();
        x.buy(0, 'p', balance);
        x.pass(30);
        x.pay(0, cents);
        x.pass(26);
        return x.paid(0, 0);
    }

    /** "Is the balance or more", "less than the least payment". */
    private static void inFullToTheCent() {
        Checks.same("the balance", paidAll(9000, 9000), 'f');
        Checks.same("more", paidAll(9000, 9001), 'f');
        Checks.same("a cent less", paidAll(9000, 8999), 'l');
        Checks.same("the least payment", paidAll(9000, 2500), 'l');
        Checks.same("a cent less than that", paidAll(9000, 2499), 'm');
        Checks.same("a cent of a cent", paidAll(1, 1), 'f');
        Checks.same("a cent of two", paidAll(2, 1), 'm');
        StatementCycle x = house();
        x.pay(0, 1);
        x.pass(30);
        Checks.same("a balance below 0", x.statement(0, 0), -1L);
        Checks.same("has no least payment", x.least(0, 0), 0L);
        x.pass(26);
        Checks.same("and is paid in full", x.paid(0, 0), 'f');
    }

    private static long leastOf(int cents) {
        StatementCycle x = freePurchases();
        x.buy(0, 'p', cents);
        x.pass(30);
        Checks.same("balance", x.statement(0, 0), (long) cents);
        return x.least(0, 0);
    }

    /** "0 with a balance of 0 or below, otherwise the balance divided by 100, cut, ... 2500 at least ... the balance at most". */
    private static void leastToTheCent() {
        Checks.same("of 1", leastOf(1), 1L);
        Checks.same("of 2499", leastOf(2499), 2499L);
        Checks.same("of 2500", leastOf(2500), 2500L);
        Checks.same("of 2501", leastOf(2501), 2500L);
        Checks.same("of 250099", leastOf(250099), 2500L);
        Checks.same("of 250100", leastOf(250100), 2501L);
        Checks.same("of 250199", leastOf(250199), 2501L);
        Checks.same("of 999999", leastOf(999999), 9999L);
        StatementCycle x = house();
        x.buy(0, 'p', 100);
        x.pay(0, 100);
        x.pass(30);
        Checks.same("of 0", x.least(0, 0), 0L);
        x.buyOn(0, 'p', 1, 29);
        Checks.same("of a cent by now", x.least(0, 0), 1L);
    }

    /** "The interest of all buckets and the fees of the cycle together". */
    private static void leastWithFees() {
        StatementCycle x = house();
        x.setRate(0, 'p', 0);
        x.buy(0, 'p', 3000);
        x.buy(0, 'c', DAILY);
        x.buy(0, 't', DAILY);
        x.pay(0, 10);
        x.returns(0, 4);
        x.pay(0, 20);
        x.returns(0, 6);
        x.pass(30);
        long balance = 3000 + 2 * DAILY + 7500 + 6000 + 5800;
        Checks.same("balance", x.statement(0, 0), balance);
        Checks.same("a hundredth, interest and fees", x.least(0, 0), balance / 100 + 13500 + 5800);
        StatementCycle y = freePurchases();
        y.buy(0, 'p', 100);
        Checks.passTo(y, 59);
        // What is owed is 2600, of which 2500 are the late fee; with a fee of 2900 less 1500 it is 4000.
        y.pay(0, 5);
        y.returns(0, 2);
        y.pay(0, 1500);
        y.pass(1);
        Checks.same("balance of fees", y.statement(0, 1), 4000L);
        Checks.same("fees above the balance", y.least(0, 1), 4000L);
        StatementCycle z = freePurchases();
        z.buy(0, 'p', 5000);
        Checks.passTo(z, 60);
        Checks.same("a late fee and a hundredth, above 2500", z.least(0, 1), 75L + 2500);
        Checks.passTo(z, 90);
        Checks.same("3500 and a hundredth", z.least(0, 2), 110L + 3500);
    }

    /** "3500 if one of the six statements ahead was missed". */
    private static void lateFeeOfSixAhead() {
        for (int gap = 1; gap <= 9; gap++) {
            Checks.same("missed " + gap + " ahead", feeBehind(0, gap), gap <= 6 ? 3500L : 2500L);
        }
        Checks.same("missed 6 ahead, later", feeBehind(3, 6), 3500L);
        Checks.same("missed 7 ahead, later", feeBehind(3, 7), 2500L);
        Checks.same("the first fee", freePurchasesDue(), 2500L);
    }

    private static long freePurchasesDue() {
        StatementCycle x = freePurchases();
        x.buy(0, 'p', 5000);
        Checks.passTo(x, 56);
        return x.bucket(0, 'p') - 5000;
    }

    /** The fee of the second statement that is missed, so many behind the first one, all others being paid. */
    private static long feeBehind(int first, int gap) {
        StatementCycle x = freePurchases();
        x.buy(0, 'p', 900000);
        long before = 0;
        for (int c = 0; c <= first + gap; c++) {
            x.pass(30);
            if (c != first && c != first + gap) {
                x.pay(0, (int) x.missing(0));
            }
            before = x.bucket(0, 'p');
        }
        Checks.same("one missed till then", x.missed(0), 1);
        x.pass(26);
        Checks.same("two missed", x.missed(0), 2);
        return x.bucket(0, 'p') - before;
    }

    private static StatementCycle paidOnce(int cycle) {
        StatementCycle x = freePurchases();
        x.buy(0, 'p', 900000);
        for (int c = 0; c < 12; c++) {
            x.pass(30);
            if (c == cycle && x.missing(0) > 0) {
                x.pay(0, (int) x.missing(0));
            }
        }
        return x;
    }

    /** "With the sixth one missed, none being not missed among them, the account is written off". */
    private static void sixthMissed() {
        StatementCycle x = freePurchases();
        x.buy(0, 'p', 900000);
        Checks.passTo(x, 176);
        Checks.same("five missed", x.missed(0), 5);
        Checks.same("not off", x.isOff(0), false);
        Checks.same("their fees", x.owed(0), 900000L + 2500 + 4 * 3500);
        Checks.passTo(x, 205);
        Checks.same("not off on the day", x.isOff(0), false);
        Checks.same("no reason", x.reasons(0, 'p', 1), 0);
        x.pass(1);
        Checks.same("off", x.isOff(0), true);
        Checks.same("six missed", x.missed(0), 6);
        Checks.same("no fee for the sixth", x.owed(0), 900000L + 2500 + 4 * 3500);
        Checks.same("a reason", x.why(0, 'p', 1), 'x');
        Checks.same("the statement of the sixth keeps its least payment", x.missing(0), x.least(0, 5));
        Checks.that("which is above 0", x.least(0, 5) > 2500);
        x.pass(4);
        Checks.same("the next one has none", x.least(0, 6), 0L);
        Checks.same("though it has a balance", x.statement(0, 6), 900000L + 2500 + 4 * 3500);
        Checks.passTo(x, 360);
        Checks.same("none missed behind", x.missed(0), 6);
        for (int c = 6; c < 11; c++) {
            Checks.same("least payment of " + c, x.least(0, c), 0L);
            Checks.same("statement " + c, x.paid(0, c), 'l');
        }
    }

    private static void sixInTheMiddle() {
        for (int paid = 0; paid < 12; paid++) {
            StatementCycle x = paidOnce(paid);
            // Of the eleven that are due, the one in the middle alone leaves five on each side.
            boolean isOff = paid != 5;
            Checks.same("paid statement " + paid, x.isOff(0), isOff);
            int missed = paid == 5 ? 10 : paid > 5 ? 6 : paid + 6;
            Checks.same("missed with paid " + paid, x.missed(0), missed);
        }
        StatementCycle y = freePurchases();
        y.buy(0, 'p', 900000);
        y.pass(30);
        y.pay(0, (int) y.missing(0));
        Checks.passTo(y, 235);
        Checks.same("five behind one that was paid", y.missed(0), 5);
        Checks.same("not off yet", y.isOff(0), false);
        y.pass(1);
        Checks.same("off with the sixth", y.isOff(0), true);
    }

    /** "The account is written off from then on", and then nothing accrues, on that day too. */
    private static void writtenOffDay() {
        StatementCycle x = freePurchases();
        x.setRate(0, 'c', 0);
        x.buy(0, 'c', DAILY);
        Checks.passTo(x, 204);
        x.setRate(0, 'c', 1000);
        x.pass(1);
        x.setRate(0, 'c', 2000);
        x.pass(5);
        Checks.same("it was off from the day 205 on", x.interest(0, 6), 100L);
        // Behind it, buys, payments and fees go on.
        x.buyOn(0, 'p', 500, 207);
        Checks.same("a buy of an earlier day", x.owed(0), DAILY + 100L + 2500 + 4 * 3500 + 500);
        x.pay(0, 700);
        x.returns(0, x.events(0) - 1);
        Checks.same("a fee", x.owed(0), DAILY + 100L + 2500 + 4 * 3500 + 500 + 2900);
        x.pass(30);
        Checks.same("no least payment with fees", x.least(0, 7), 0L);
    }

    /** The statements of an account that is written off are due like others. */
    private static void writtenOffAndDue() {
        StatementCycle x = Houses.off();
        Checks.same("six of the one, none of the other", x.missedShare(), 6f / 12f);
        Checks.passTo(x, 360);
        Checks.same("six of eleven, none of eleven", x.missedShare(), 6f / 22f);
        StatementCycle y = Houses.off();
        // More than is owed, as there is interest of the days ahead of it.
        y.pay(0, 300000);
        Checks.passTo(y, 300);
        Checks.same("paid in full", y.paid(0, 8), 'f');
        Checks.same("written off from then on all the same", y.isOff(0), true);
    }

    /** "It is on from its day on, for 180 days, that one counted": the interest of a cycle with a plan of a day. */
    private static long interestWithPlan(int day, int cycle) {
        StatementCycle x = freePurchases();
        x.setRate(0, 't', 0);
        x.buy(0, 'p', 900000);
        x.buy(0, 'c', DAILY);
        boolean isTold = false;
        for (int c = 0; c <= cycle; c++) {
            if (!isTold && day < 30 * c + 30) {
                Checks.passTo(x, day);
                x.plan(0);
                isTold = true;
            }
            Checks.passTo(x, 30 * c + 30);
            if (c < cycle) {
                // It is laid on purchases, which have the lowest rate.
                x.pay(0, (int) x.missing(0));
            }
        }
        Checks.same("none missed", x.missed(0), 0);
        return x.interest(0, cycle);
    }

    private static void planDays() {
        Checks.same("from the day 0 on", interestWithPlan(0, 0), 0L);
        Checks.same("from the day 1 on", interestWithPlan(1, 0), 250L);
        Checks.same("from the day 29 on", interestWithPlan(29, 0), 29 * 250L);
        Checks.same("from the day 30 on", interestWithPlan(30, 0), 30 * 250L);
        Checks.same("the days 0 to 179", interestWithPlan(0, 5), 0L);
        Checks.same("and no day more", interestWithPlan(0, 6), 30 * 250L);
        Checks.same("the day 180 too", interestWithPlan(1, 6), atRate((DAILY + 250L) * 29, 2500));
        Checks.same("up to the day 208", interestWithPlan(29, 6), atRate(DAILY + 29 * 250L, 2500));
        Checks.same("up to the day 209", interestWithPlan(30, 6), 0L);
    }

    /** A plan goes on when statements are missed, and does not keep an account from being written off. */
    private static void planAndMissed() {
        StatementCycle x = freePurchases();
        x.buy(0, 'c', DAILY);
        x.plan(0);
        Checks.passTo(x, 90);
        Checks.same("missed", x.paid(0, 0), 'm');
        Checks.same("nothing accrued", x.interest(0, 1) + x.interest(0, 2), 0L);
        Checks.same("just 2500", x.least(0, 2), 2500L);
        StatementCycle y = freePurchases();
        y.buy(0, 'p', 900000);
        Checks.passTo(y, 100);
        y.plan(0);
        Checks.passTo(y, 206);
        Checks.same("written off with a plan", y.isOff(0), true);
        Checks.same("its fees", y.owed(0), 900000L + 2500 + 4 * 3500);
    }

    private static long leastWithPlan(int day, int cycle, int cents) {
        StatementCycle x = freePurchases();
        x.buy(0, 'p', cents);
        boolean isTold = false;
        for (int c = 0; c <= cycle; c++) {
            if (!isTold && day < 30 * c + 30) {
                Checks.passTo(x, day);
                x.plan(0);
                isTold = true;
            }
            Checks.passTo(x, 30 * c + 30);
            if (c < cycle) {
                x.pay(0, (int) x.missing(0));
            }
        }
        if (!isTold) {
            x.plan(0);
        }
        return x.least(0, cycle);
    }

    /** "Or, with a plan on on the day of closing, just 2500; in any case the balance at most". */
    private static void planOnTheDayOfClosing() {
        Checks.same("told ahead of it", leastWithPlan(29, 0, 900000), 2500L);
        Checks.same("told on it", leastWithPlan(30, 0, 900000), 2500L);
        Checks.same("of the day 0, on the day 150", leastWithPlan(0, 4, 900000), 2500L);
        Checks.same("of the day 0, on the day 180", leastWithPlan(0, 5, 900000), 8875L);
        Checks.same("of the day 1, on the day 180", leastWithPlan(1, 5, 900000), 2500L);
        Checks.same("a balance of 2499", leastWithPlan(0, 0, 2499), 2499L);
        Checks.same("a balance of 2501", leastWithPlan(0, 0, 2501), 2500L);
        StatementCycle x = freePurchases();
        x.buy(0, 'p', 900000);
        x.pass(30);
        x.pass(1);
        x.plan(0);
        Checks.same("told on the day behind", x.least(0, 0), 9000L);
        StatementCycle y = house();
        y.plan(0);
        y.pay(0, 1);
        y.pass(30);
        Checks.same("a balance below 0 with a plan", y.least(0, 0), 0L);
        StatementCycle z = freePurchases();
        z.plan(0);
        z.buy(0, 'p', 900000);
        z.pay(0, 5);
        z.returns(0, 3);
        z.pass(30);
        Checks.same("no fee in it", z.least(0, 0), 2500L);
        z.pass(26);
        Checks.same("it can be missed", z.paid(0, 0), 'm');
        Checks.same("with its fee", z.owed(0), 900000L + 2900 + 2500);
    }

    /** The interest of a cycle with a sum that is disputed on one day and settled on another one, as lost. */
    private static long interestFrozen(int from, int until) {
        StatementCycle x = house();
        x.buy(0, 'c', DAILY);
        Checks.passTo(x, from);
        x.dispute(0, 0);
        Checks.passTo(x, until);
        x.settle(0, 0, false);
        Checks.passTo(x, 30);
        return x.interest(0, 0);
    }

    /** "From that day on till it is settled, the day on which it is settled not counted". */
    private static void frozenDays() {
        Checks.same("settled on its day", interestFrozen(5, 5), 30 * 250L);
        Checks.same("a day", interestFrozen(5, 6), 29 * 250L);
        Checks.same("the first day", interestFrozen(0, 1), 29 * 250L);
        Checks.same("the last day", interestFrozen(29, 30), 29 * 250L);
        Checks.same("disputed when it is closed", interestFrozen(30, 30), 30 * 250L);
        Checks.same("all days", interestFrozen(0, 30), 0L);
        StatementCycle x = house();
        x.pass(20);
        x.buyOn(0, 'c', DAILY, 0);
        x.dispute(0, 0);
        x.pass(10);
        Checks.same("not from the day of the buy on", x.interest(0, 0), 20 * 250L);
        Checks.same("it is owed", x.statement(0, 0), DAILY + 20 * 250L);
        x.pass(30);
        long cash = DAILY + 20 * 250L;
        Checks.same("the interest is not frozen", x.bucket(0, 'c') - cash, atRate(20 * 250L * 30, 2500));
        Checks.same("won, it was not there", x.settle(0, 0, true), 0L);
        Checks.same("nor its interest", x.interest(0, 0), 0L);
    }

    /** "Less what is frozen of it, 0 at least". */
    private static void frozenAtLeastNothing() {
        for (int paid : new int[] {DAILY - 1, DAILY, DAILY + 1, 2 * DAILY}) {
            StatementCycle x = house();
            x.buy(0, 'c', DAILY);
            x.buy(0, 'c', DAILY);
            x.buy(0, 't', DAILY);
            x.dispute(0, 0);
            x.pay(0, paid);
            x.pass(30);
            long rest = Math.max(0, DAILY - paid);
            Checks.same("with " + paid + " paid", x.interest(0, 0), atRate(rest * 30, 2500) + 6000);
        }
        StatementCycle y = house();
        y.buy(0, 'c', DAILY);
        y.buy(0, 't', 100);
        y.buy(0, 't', DAILY);
        y.dispute(0, 2);
        y.pay(0, 2 * DAILY);
        y.buy(0, 'c', 1);
        y.setRate(0, 'c', 9999);
        y.pass(30);
        Checks.same("what is too much frozen takes nothing of another bucket", y.interest(0, 0), rounded(30L * 9999));
    }

    /** What is frozen of a bucket is all buys of it that are, and none of them is taken back by that. */
    private static void frozenTogether() {
        StatementCycle x = house();
        for (int e = 0; e < 4; e++) {
            x.buy(0, 'c', DAILY);
        }
        x.buy(0, 't', DAILY);
        for (int e : new int[] {0, 1, 3, 4}) {
            x.dispute(0, e);
            Checks.same("event " + e + " is not taken back", x.isBack(0, e), false);
        }
        x.pass(10);
        x.settle(0, 1, false);
        x.pass(20);
        Checks.same("one of four for all days, another for twenty", x.interest(0, 0), 30 * 250L + 20 * 250L);
        Checks.same("all is owed", x.statement(0, 0), 5L * DAILY + 12500);
    }
}
