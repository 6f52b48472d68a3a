/**
 * "A method that throws an exception changes nothing. If several conditions of a method apply, the exception that is
 * listed first is thrown." Each row "Throws" of each promise, at the numbers on either side of those that are fine.
 */
public final class RefusalsTest {
    private static final Class<IndexOutOfBoundsException> INDEX = IndexOutOfBoundsException.class;
    private static final Class<IllegalArgumentException> ARGUMENT = IllegalArgumentException.class;
    private static final Class<IllegalStateException> STATE = IllegalStateException.class;
    private static final Class<UnsupportedOperationException> UNSUPPORTED = UnsupportedOperationException.class;
    private static final Class<java.util.NoSuchElementException> NONE = java.util.NoSuchElementException.class;
    private static final int MIN = Integer.MIN_VALUE;
    private static final int MAX = Integer.MAX_VALUE;
    private static final int[] NO_LIMITS = {MIN, -1, 10000000, MAX};
    private static final int[] NO_RATES = {MIN, -1, 10000, MAX};
    private static final int[] NO_CENTS = {MIN, -1, 0, 1000000, MAX};
    /** The neighbours of the three kinds, them in capitals, and kinds of events. */
    private static final char[] NO_KINDS = {'o', 'q', 'b', 'd', 's', 'u', 'P', 'C', 'T', 'y', 'f', 'r', 'h', '-', 0, 65535};

    private interface OfAccount {
        Object of(StatementCycle x, int account);
    }

    private interface OfEvent {
        Object of(StatementCycle x, int event);
    }

    public static void main(String[] args) {
        noSuchAccount();
        noSuchEvent();
        accounts();
        rates();
        currencies();
        buys();
        declinedBuys();
        earlierBuys();
        buysAbroad();
        payments();
        returns();
        disputes();
        plans();
        points();
        days();
        statements();
        questions();
        Checks.end();
    }

    private static void refused(String what, Class<? extends RuntimeException> want, Checks.Recipe recipe, Checks.Ask ask) {
        Checks.refused(what, want, recipe, ask);
    }

    private static void noAccount(String what, Checks.Recipe recipe, int[] accounts, OfAccount call) {
        for (int a : accounts) {
            refused(what + " of account " + a, INDEX, recipe, x -> call.of(x, a));
        }
    }

    /** With what would be fine, and with all else wrong too; of no account at all, and of the next one. */
    private static void noAccount(String what, OfAccount fine, OfAccount wrong) {
        int[] behindTwo = {MIN, -1, 2, 3, 4, MAX};
        noAccount(what, Houses::used, behindTwo, fine);
        noAccount(what + " wrongly", Houses::used, behindTwo, wrong);
        noAccount(what + " in an empty house", Houses::empty, new int[] {-1, 0, 1}, fine);
        noAccount(what + " in a house of four", Houses::four, new int[] {-1, 4, 5}, fine);
    }

    private static void noSuchAccount() {
        noAccount("setLimit", (x, a) -> x.setLimit(a, 5), (x, a) -> x.setLimit(a, -1));
        noAccount("block", (x, a) -> x.block(a, true), (x, a) -> x.block(a, false));
        noAccount("setRate", (x, a) -> x.setRate(a, 'p', 5), (x, a) -> x.setRate(a, 'x', -1));
        noAccount("promote", (x, a) -> x.promote(a, 5, 5), (x, a) -> x.promote(a, -1, 0));
        noAccount("buy", (x, a) -> x.buy(a, 'p', 5), (x, a) -> x.buy(a, 'x', 0));
        noAccount("buyOn", (x, a) -> x.buyOn(a, 'p', 5, 0), (x, a) -> x.buyOn(a, 'x', 0, -1));
        noAccount("abroad", (x, a) -> x.abroad(a, 0, 5), (x, a) -> x.abroad(a, 4, 0));
        noAccount("pay", (x, a) -> x.pay(a, 5), (x, a) -> x.pay(a, 0));
        noAccount("returns", (x, a) -> x.returns(a, 3), (x, a) -> x.returns(a, -1));
        noAccount("dispute", (x, a) -> x.dispute(a, 0), (x, a) -> x.dispute(a, -1));
        noAccount("settle", (x, a) -> x.settle(a, 10, true), (x, a) -> x.settle(a, -1, true));
        noAccount("reverse", (x, a) -> x.reverse(a, 0), (x, a) -> x.reverse(a, -1));
        noAccount("plan", (x, a) -> x.plan(a), (x, a) -> x.plan(a));
        noAccount("redeem", (x, a) -> x.redeem(a, 5), (x, a) -> x.redeem(a, 0));
        noAccount("owed", (x, a) -> x.owed(a), (x, a) -> x.owed(a));
        noAccount("bucket", (x, a) -> x.bucket(a, 'p'), (x, a) -> x.bucket(a, 'x'));
        noAccount("credit", (x, a) -> x.credit(a), (x, a) -> x.credit(a));
        noAccount("statement", (x, a) -> x.statement(a, 0), (x, a) -> x.statement(a, 1));
        noAccount("told", (x, a) -> x.told(a, 0), (x, a) -> x.told(a, 1));
        noAccount("difference", (x, a) -> x.difference(a, 0), (x, a) -> x.difference(a, 1));
        noAccount("least", (x, a) -> x.least(a, 0), (x, a) -> x.least(a, 1));
        noAccount("interest", (x, a) -> x.interest(a, 0), (x, a) -> x.interest(a, 1));
        noAccount("hadGrace", (x, a) -> x.hadGrace(a, 0), (x, a) -> x.hadGrace(a, 1));
        noAccount("paid", (x, a) -> x.paid(a, 0), (x, a) -> x.paid(a, 1));
        noAccount("missing", (x, a) -> x.missing(a), (x, a) -> x.missing(a));
        noAccount("missed", (x, a) -> x.missed(a), (x, a) -> x.missed(a));
        noAccount("isOff", (x, a) -> x.isOff(a), (x, a) -> x.isOff(a));
        noAccount("points", (x, a) -> x.points(a), (x, a) -> x.points(a));
        noAccount("events", (x, a) -> x.events(a), (x, a) -> x.events(a));
        noAccount("kindOf", (x, a) -> x.kindOf(a, 0), (x, a) -> x.kindOf(a, -1));
        noAccount("isBack", (x, a) -> x.isBack(a, 0), (x, a) -> x.isBack(a, -1));
        noAccount("sum", (x, a) -> x.sum(a, 0), (x, a) -> x.sum(a, -1));
        noAccount("why", (x, a) -> x.why(a, 'p', 5), (x, a) -> x.why(a, 'x', 0));
        noAccount("reasons", (x, a) -> x.reasons(a, 'p', 5), (x, a) -> x.reasons(a, 'x', 0));
    }

    private static void noEvent(String what, OfEvent call) {
        // 13 events in the one house, 60 in the other, none in the third.
        for (int e : new int[] {MIN, -1, 13, 14, 60, MAX}) {
            refused(what + " of event " + e, INDEX, Houses::used, x -> call.of(x, e));
        }
        for (int e : new int[] {-1, 60, 61, MAX}) {
            refused(what + " of event " + e + " in a full one", INDEX, Houses::full, x -> call.of(x, e));
        }
        for (int e : new int[] {-1, 0, 1}) {
            refused(what + " of event " + e + " without one", INDEX, Houses::one, x -> call.of(x, e));
        }
    }

    private static void noSuchEvent() {
        noEvent("returns", (x, e) -> x.returns(0, e));
        noEvent("dispute", (x, e) -> x.dispute(0, e));
        noEvent("settle, won,", (x, e) -> x.settle(0, e, true));
        noEvent("settle, lost,", (x, e) -> x.settle(0, e, false));
        noEvent("reverse", (x, e) -> x.reverse(0, e));
        noEvent("kindOf", (x, e) -> x.kindOf(0, e));
        noEvent("isBack", (x, e) -> x.isBack(0, e));
        noEvent("sum", (x, e) -> x.sum(0, e));
        refused("events are those of the account", INDEX, Houses::used, x -> x.kindOf(1, 2));
    }

    private static void accounts() {
        for (int limit : NO_LIMITS) {
            refused("open " + limit, ARGUMENT, Houses::used, x -> x.open(limit));
            refused("open " + limit + " in a house of four", ARGUMENT, Houses::four, x -> x.open(limit));
            refused("setLimit " + limit, ARGUMENT, Houses::used, x -> x.setLimit(0, limit));
        }
        for (int limit : new int[] {0, 5, 9999999}) {
            refused("a fifth account of " + limit, STATE, Houses::four, x -> x.open(limit));
        }
    }

    private static void rates() {
        for (char kind : NO_KINDS) {
            refused("setRate of " + (int) kind, ARGUMENT, Houses::used, x -> x.setRate(0, kind, 5));
        }
        for (int rate : NO_RATES) {
            for (char kind : "pct".toCharArray()) {
                refused("setRate " + kind + rate, ARGUMENT, Houses::used, x -> x.setRate(0, kind, rate));
            }
            refused("setRate " + rate + " of a full one", ARGUMENT, Houses::full, x -> x.setRate(0, 'p', rate));
            refused("promote " + rate, ARGUMENT, Houses::used, x -> x.promote(0, rate, 5));
            refused("promote " + rate + " in a full one", ARGUMENT, Houses::full, x -> x.promote(0, rate, 5));
        }
        for (int days : new int[] {MIN, -1, 0, 361, MAX}) {
            refused("promote for " + days, ARGUMENT, Houses::used, x -> x.promote(0, 5, days));
            refused("promote for " + days + " in a full one", ARGUMENT, Houses::full, x -> x.promote(0, 5, days));
        }
        refused("setRate of no kind in a full one", ARGUMENT, Houses::full, x -> x.setRate(0, 'x', 5));
        refused("setRate in a full one", STATE, Houses::full, x -> x.setRate(0, 't', 9999));
        refused("promote in a full one", STATE, Houses::full, x -> x.promote(0, 0, 360));
    }

    private static void currencies() {
        for (int currency : new int[] {MIN, -1, 4, MAX}) {
            refused("setCurrency of " + currency, ARGUMENT, Houses::used, x -> x.setCurrency(currency, 5));
        }
        for (int worth : new int[] {MIN, -1, 0, 100000, MAX}) {
            for (int c = 0; c < 4; c++) {
                int currency = c;
                refused("setCurrency " + worth, ARGUMENT, Houses::used, x -> x.setCurrency(currency, worth));
            }
        }
    }

    private static void buys() {
        for (char kind : NO_KINDS) {
            refused("buy of " + (int) kind, ARGUMENT, Houses::used, x -> x.buy(0, kind, 5));
        }
        for (int cents : NO_CENTS) {
            for (char kind : "pct".toCharArray()) {
                refused("buy " + kind + cents, ARGUMENT, Houses::used, x -> x.buy(0, kind, cents));
            }
            refused("buy " + cents + " declined", ARGUMENT, Houses::off, x -> x.buy(0, 'p', cents));
            refused("buy " + cents + " in a full one", ARGUMENT, Houses::full, x -> x.buy(0, 'p', cents));
        }
        refused("buy of no kind, written off", ARGUMENT, Houses::off, x -> x.buy(0, 'x', 5));
        refused("buy of no kind in a full one", ARGUMENT, Houses::full, x -> x.buy(0, 'x', 5));
        refused("buy in a full one", STATE, Houses::full, x -> x.buy(0, 'p', 5));
        refused("buy in a full one, declined", UNSUPPORTED, Houses::full, x -> x.buy(0, 'p', 999999));
        refused("buy in a full one, written off", UNSUPPORTED, Houses::offAndFull, x -> x.buy(0, 'p', 5));
    }

    private static StatementCycle blocked() {
        StatementCycle x = Houses.used();
        x.block(0, true);
        return x;
    }

    private static StatementCycle limited(int limit) {
        StatementCycle x = Houses.used();
        x.setLimit(0, limit);
        return x;
    }

    private static void declinedBuys() {
        int owed = (int) Houses.used().owed(0);
        int cash = (int) Houses.used().bucket(0, 'c');
        refused("buy, written off", UNSUPPORTED, Houses::off, x -> x.buy(0, 't', 5));
        refused("buy, blocked", UNSUPPORTED, RefusalsTest::blocked, x -> x.buy(0, 't', 5));
        refused("buy above the limit", UNSUPPORTED, () -> limited(owed + 4), x -> x.buy(0, 't', 5));
        Checks.same("buy up to the limit", limited(owed + 5).buy(0, 't', 5), 13);
        refused("buy above the fifth", UNSUPPORTED, () -> limited(5 * (cash + 5) - 1), x -> x.buy(0, 'c', 5));
        Checks.same("buy up to the fifth", limited(5 * (cash + 5)).buy(0, 'c', 5), 13);
        refused("abroad, written off", UNSUPPORTED, Houses::off, x -> x.abroad(0, 0, 5));
        refused("abroad, blocked", UNSUPPORTED, RefusalsTest::blocked, x -> x.abroad(0, 0, 5));
        refused("abroad above the limit", UNSUPPORTED, () -> limited(owed + 102), x -> x.abroad(0, 0, 100));
        Checks.same("abroad up to the limit", limited(owed + 103).abroad(0, 0, 100), 13);
    }

    private static void earlierBuys() {
        for (char kind : NO_KINDS) {
            refused("buyOn of " + (int) kind, ARGUMENT, Houses::used, x -> x.buyOn(0, kind, 5, 5));
        }
        for (int cents : NO_CENTS) {
            refused("buyOn " + cents, ARGUMENT, Houses::used, x -> x.buyOn(0, 'p', cents, 5));
            refused("buyOn " + cents + " in a full one", ARGUMENT, Houses::full, x -> x.buyOn(0, 'p', cents, 5));
        }
        for (int day : new int[] {MIN, -1, 59, 60, 360, MAX}) {
            refused("buyOn the day " + day, ARGUMENT, Houses::used, x -> x.buyOn(0, 'p', 5, day));
            refused("buyOn the day " + day + " in a full one", ARGUMENT, Houses::full, x -> x.buyOn(0, 'p', 5, day));
        }
        refused("buyOn the day 1 of the day 0", ARGUMENT, Houses::one, x -> x.buyOn(0, 'p', 5, 1));
        refused("buyOn the day 361", ARGUMENT, Houses::atTheEnd, x -> x.buyOn(0, 'p', 5, 361));
        refused("buyOn of no kind in a full one", ARGUMENT, Houses::full, x -> x.buyOn(0, 'x', 5, 0));
        refused("buyOn in a full one", STATE, Houses::full, x -> x.buyOn(0, 'p', 5, 0));
        refused("buyOn today in a full one", STATE, Houses::full, x -> x.buyOn(0, 'p', 5, 58));
    }

    private static void buysAbroad() {
        for (int currency : new int[] {MIN, -1, 4, MAX}) {
            refused("abroad in " + currency, ARGUMENT, Houses::used, x -> x.abroad(0, currency, 5));
            refused("abroad in " + currency + ", written off", ARGUMENT, Houses::off, x -> x.abroad(0, currency, 5));
            refused("abroad in " + currency + " in a full one", ARGUMENT, Houses::full, x -> x.abroad(0, currency, 5));
        }
        for (int units : new int[] {MIN, -1, 0, 10000, MAX}) {
            refused("abroad " + units, ARGUMENT, Houses::used, x -> x.abroad(0, 0, units));
            refused("abroad " + units + ", written off", ARGUMENT, Houses::off, x -> x.abroad(0, 0, units));
            refused("abroad " + units + " in a full one", ARGUMENT, Houses::full, x -> x.abroad(0, 0, units));
        }
        // A unit of the currency 2 is worth a thousandth of a cent.
        for (int units : new int[] {1, 499}) {
            refused("abroad of no cent", UNSUPPORTED, Houses::used, x -> x.abroad(0, 2, units));
            refused("abroad of no cent in a full one", UNSUPPORTED, Houses::full, x -> x.abroad(0, 2, units));
        }
        Checks.same("abroad of a cent", Houses.used().abroad(0, 2, 500), 13);
        refused("abroad in a full one", STATE, Houses::full, x -> x.abroad(0, 2, 500));
        refused("abroad in a full one, written off", UNSUPPORTED, Houses::offAndFull, x -> x.abroad(0, 0, 5));
    }

    private static void payments() {
        for (int cents : new int[] {MIN, -1, 0, 10000000, MAX}) {
            refused("pay " + cents, ARGUMENT, Houses::used, x -> x.pay(0, cents));
            refused("pay " + cents + " in a full one", ARGUMENT, Houses::full, x -> x.pay(0, cents));
        }
        refused("pay in a full one", STATE, Houses::full, x -> x.pay(0, 1));
    }

    /** Each event of the used house but some is not of the kind that a call is for. */
    private static void wrongEvents(String what, int[] fine, OfEvent call) {
        for (int e = 0; e < 13; e++) {
            boolean isFine = false;
            for (int f : fine) {
                isFine |= f == e;
            }
            int event = e;
            if (isFine) {
                Object answer = Checks.answer(() -> call.of(Houses.used(), event));
                Checks.that(what + " of event " + e + " answered " + answer, !(answer instanceof String));
            } else {
                refused(what + " of event " + e, UNSUPPORTED, Houses::used, x -> call.of(x, event));
            }
        }
        refused(what + " of a plan", UNSUPPORTED, Houses::fullWithPlan, x -> call.of(x, 0));
    }

    private static void returns() {
        // The payment 3 alone was not taken back.
        wrongEvents("returns", new int[] {3}, (x, e) -> x.returns(0, e));
        refused("returns in a full one", STATE, Houses::full, x -> x.returns(0, 3));
        refused("returns of a returned one in a full one", UNSUPPORTED, Houses::full, x -> x.returns(0, 4));
        refused("returns of a buy in a full one", UNSUPPORTED, Houses::full, x -> x.returns(0, 0));
    }

    private static StatementCycle settled(boolean isWon) {
        StatementCycle x = Houses.used();
        x.settle(0, 10, isWon);
        return x;
    }

    private static void disputes() {
        // 9 was reversed, 10 is frozen, 11 was lost, 12 won.
        wrongEvents("dispute", new int[] {0, 1, 2}, (x, e) -> x.dispute(0, e));
        wrongEvents("settle, won,", new int[] {10}, (x, e) -> x.settle(0, e, true));
        wrongEvents("settle, lost,", new int[] {10}, (x, e) -> x.settle(0, e, false));
        wrongEvents("reverse", new int[] {0, 1, 2, 11}, (x, e) -> x.reverse(0, e));
        for (boolean isWon : new boolean[] {true, false}) {
            refused("dispute of a settled one", UNSUPPORTED, () -> settled(isWon), x -> x.dispute(0, 10));
            refused("settle again, won", UNSUPPORTED, () -> settled(isWon), x -> x.settle(0, 10, true));
            refused("settle again, lost", UNSUPPORTED, () -> settled(isWon), x -> x.settle(0, 10, false));
        }
        refused("reverse of a won one", UNSUPPORTED, () -> settled(true), x -> x.reverse(0, 10));
        Checks.that("reverse of a lost one", !(Checks.answer(() -> settled(false).reverse(0, 10)) instanceof String));
        Checks.same("dispute in a full one", Houses.full().dispute(0, 0), 2);
        Checks.that("settle in a full one", !(Checks.answer(() -> Houses.full().settle(0, 10, true)) instanceof String));
        Checks.that("reverse in a full one", !(Checks.answer(() -> Houses.full().reverse(0, 0)) instanceof String));
    }

    private static StatementCycle pastPlan() {
        StatementCycle x = Houses.one();
        x.open(5);
        x.plan(0);
        Checks.passTo(x, 200);
        return x;
    }

    private static void plans() {
        refused("a second plan", UNSUPPORTED, Houses::used, x -> x.plan(1));
        refused("a plan behind one that is over", UNSUPPORTED, RefusalsTest::pastPlan, x -> x.plan(0));
        refused("a plan of one written off", UNSUPPORTED, Houses::off, x -> x.plan(0));
        refused("a second plan in a full one", UNSUPPORTED, Houses::fullWithPlan, x -> x.plan(0));
        refused("a plan of one written off in a full one", UNSUPPORTED, Houses::offAndFull, x -> x.plan(0));
        refused("a plan in a full one", STATE, Houses::full, x -> x.plan(0));
        Checks.same("a plan of another account", Houses.used().plan(0), 13);
    }

    private static void points() {
        int points = (int) Houses.used().points(0);
        for (int n : new int[] {MIN, -1, 0, 1000000, MAX}) {
            refused("redeem " + n, ARGUMENT, Houses::used, x -> x.redeem(0, n));
            refused("redeem " + n + " without points", ARGUMENT, Houses::one, x -> x.redeem(0, n));
            refused("redeem " + n + " in a full one", ARGUMENT, Houses::full, x -> x.redeem(0, n));
        }
        refused("redeem without points", UNSUPPORTED, Houses::one, x -> x.redeem(0, 1));
        refused("redeem one more", UNSUPPORTED, Houses::used, x -> x.redeem(0, points + 1));
        refused("redeem the most", UNSUPPORTED, Houses::used, x -> x.redeem(0, 999999));
        refused("redeem one more in a full one", UNSUPPORTED, Houses::full, x -> x.redeem(0, points + 1));
        refused("redeem in a full one", STATE, Houses::full, x -> x.redeem(0, points));
        Checks.same("redeem all", Houses.used().redeem(0, points), 13);
    }

    private static StatementCycle onDay(int day) {
        StatementCycle x = Houses.used();
        Checks.passTo(x, day);
        return x;
    }

    private static void days() {
        for (int days : new int[] {MIN, -1, 0, 31, 303, MAX}) {
            refused("pass " + days, ARGUMENT, Houses::used, x -> x.pass(days));
            refused("pass " + days + " at the end", ARGUMENT, Houses::atTheEnd, x -> x.pass(days));
        }
        for (int days : new int[] {1, 2, 30}) {
            refused("pass " + days + " at the end", STATE, Houses::atTheEnd, x -> x.pass(days));
        }
        refused("pass 30 of the day 331", STATE, () -> onDay(331), x -> x.pass(30));
        refused("pass 2 of the day 359", STATE, () -> onDay(359), x -> x.pass(2));
        Checks.same("pass 30 of the day 330", onDay(330).pass(30), 360);
        Checks.same("pass 29 of the day 331", onDay(331).pass(29), 360);
        Checks.same("pass 1 of the day 359", onDay(359).pass(1), 360);
    }

    private static void noStatement(String what, Checks.Recipe recipe, int[] cycles) {
        for (int c : cycles) {
            refused("statement " + c + what, NONE, recipe, x -> x.statement(0, c));
            refused("told " + c + what, NONE, recipe, x -> x.told(0, c));
            refused("difference " + c + what, NONE, recipe, x -> x.difference(0, c));
            refused("least " + c + what, NONE, recipe, x -> x.least(0, c));
            refused("interest " + c + what, NONE, recipe, x -> x.interest(0, c));
            refused("hadGrace " + c + what, NONE, recipe, x -> x.hadGrace(0, c));
            refused("paid " + c + what, NONE, recipe, x -> x.paid(0, c));
        }
    }

    private static StatementCycle openedOn(int day) {
        StatementCycle x = Houses.empty();
        Checks.passTo(x, day);
        x.open(1000);
        Checks.passTo(x, Math.max(day, 60));
        return x;
    }

    private static void statements() {
        noStatement(" of the day 0", Houses::one, new int[] {MIN, -1, 0, 1, 11, 12, MAX});
        noStatement(" of the day 58", Houses::used, new int[] {MIN, -1, 1, 2, 12, MAX});
        noStatement(" of the day 360", Houses::atTheEnd, new int[] {-1, 12, 13, MAX});
        for (int day : new int[] {30, 31, 59}) {
            refused("told ahead of " + day, NONE, () -> openedOn(day), x -> x.told(0, 0));
            refused("difference ahead of " + day, NONE, () -> openedOn(day), x -> x.difference(0, 0));
            Checks.same("its statement is there", openedOn(day).statement(0, 0), 0L);
            Checks.same("the next one was told", openedOn(day).told(0, 1), 0L);
        }
        Checks.same("told to one opened on the day 29", openedOn(29).told(0, 0), 0L);
        refused("told of the day 60", NONE, () -> openedOn(60), x -> x.told(0, 1));
        for (int cycle : new int[] {0, 5, 11}) {
            refused("told of the day 360", NONE, () -> openedOn(360), x -> x.told(0, cycle));
            refused("difference of the day 360", NONE, () -> openedOn(360), x -> x.difference(0, cycle));
            Checks.same("its statement is there", openedOn(360).statement(0, cycle), 0L);
        }
    }

    private static void questions() {
        for (char kind : NO_KINDS) {
            refused("bucket " + (int) kind, ARGUMENT, Houses::used, x -> x.bucket(0, kind));
            refused("why " + (int) kind, ARGUMENT, Houses::used, x -> x.why(0, kind, 5));
            refused("reasons " + (int) kind, ARGUMENT, Houses::used, x -> x.reasons(0, kind, 5));
        }
        for (int cents : NO_CENTS) {
            refused("why " + cents, ARGUMENT, Houses::used, x -> x.why(0, 'p', cents));
            refused("reasons " + cents, ARGUMENT, Houses::off, x -> x.reasons(0, 'p', cents));
        }
        refused("missedShare without an account", ArithmeticException.class, Houses::empty, x -> x.missedShare());
        refused("missedShare with none due", ArithmeticException.class, Houses::four, x -> x.missedShare());
        refused("meanOwed without an account", ArithmeticException.class, Houses::empty, x -> x.meanOwed());
        StatementCycle late = Houses.empty();
        Checks.passTo(late, 360);
        Checks.fails("missedShare of an empty house on the last day", ArithmeticException.class, () -> late.missedShare());
    }
}
