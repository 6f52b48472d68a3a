import java.util.Random;

/**
 * Long runs of mixed calls, each answer compared with that of PlainHouse. The seeds are fixed. What a run wants to know
 * for itself it asks PlainHouse, as nothing is promised of an object behind its 512th call.
 */
public final class OracleTest {
    private static final int RUNS = 120;
    private static final int CALLS = 512;

    private final Random random;
    private final StatementCycle x = new StatementCycle();
    private final PlainHouse y = new PlainHouse();
    private final int paying;
    private int call;

    private OracleTest(long seed) {
        random = new Random(seed);
        paying = random.nextInt(4);
    }

    public static void main(String[] args) {
        int offs = 0;
        for (int seed = 1; seed <= RUNS; seed++) {
            OracleTest run = new OracleTest(seed);
            run.go(seed);
            offs += run.countOff();
        }
        Checks.that("some accounts were written off", offs > 10);
        Checks.end();
    }

    private int countOff() {
        int count = 0;
        for (int a = 0; a < 4; a++) {
            int account = a;
            count += Checks.answer(() -> y.isOff(account)).equals(true) ? 1 : 0;
        }
        return count;
    }

    private void go(int seed) {
        while (call < CALLS) {
            int number = call < 2 ? 0 : random.nextInt(60);
            int account = odd() ? random.nextInt(7) - 2 : random.nextInt(2);
            step(seed, number, account);
        }
    }

    private boolean odd() {
        return random.nextInt(30) == 0;
    }

    private int some(int low, int high) {
        if (odd()) {
            return random.nextBoolean() ? low - random.nextInt(2) : high + random.nextInt(2);
        }
        int width = high - low;
        int most = random.nextInt(3) == 0 ? width : Math.min(width, 30000);
        return low + random.nextInt(most + 1);
    }

    private int someDay() {
        return odd() ? y.today() + 1 : random.nextInt(y.today() + 1) + (odd() ? -1 : 0);
    }

    private char kind() {
        return odd() ? (char) random.nextInt(256) : "pct".charAt(random.nextInt(3));
    }

    private int event(int account) {
        int count = Checks.answer(() -> y.events(account)) instanceof Integer told ? told : 0;
        return odd() || count == 0 ? random.nextInt(62) - 1 : random.nextInt(count);
    }

    private int cycle() {
        return odd() ? random.nextInt(15) - 1 : random.nextInt(y.today() / 30 + 1);
    }

    private void both(String what, Checks.Call one, Checks.Call other) {
        Checks.same(what + " at call " + call, Checks.answer(one), Checks.answer(other));
        call++;
    }

    private void step(int seed, int number, int a) {
        String what = "seed " + seed + " call kind " + number + " account " + a;
        if (number < 24) {
            change(what, number, a);
        } else if (number < 30) {
            pass(what);
        } else {
            ask(what, number, a);
        }
        if (call % 16 == 15 && call < CALLS) {
            both(what + " checksum", () -> x.checksum(), () -> y.checksum());
        }
    }

    private void pass(String what) {
        int days = odd() ? some(1, 30) : 1 + random.nextInt(random.nextInt(5) == 0 ? 30 : 12);
        both(what + " pass " + days, () -> x.pass(days), () -> y.pass(days));
    }

    private void change(String what, int number, int a) {
        int e = event(a);
        char k = kind();
        switch (number) {
            case 0: { int n = some(50000, 9999999); both(what, () -> x.open(n), () -> y.open(n)); break; }
            case 1: { int n = some(0, 9999999); both(what, () -> x.setLimit(a, n), () -> y.setLimit(a, n)); break; }
            case 2: { boolean is = odd(); both(what, () -> x.block(a, is), () -> y.block(a, is)); break; }
            case 3: { int n = some(0, 9999); both(what, () -> x.setRate(a, k, n), () -> y.setRate(a, k, n)); break; }
            case 4: { int n = some(0, 9999); int d = some(1, 360); both(what, () -> x.promote(a, n, d), () -> y.promote(a, n, d)); break; }
            case 5: { int c = some(0, 3); int n = some(1, 99999); both(what, () -> x.setCurrency(c, n), () -> y.setCurrency(c, n)); break; }
            case 6: case 7: case 8: { int n = some(1, 999999); both(what, () -> x.buy(a, k, n), () -> y.buy(a, k, n)); break; }
            case 9: case 10: { int n = some(1, 999999); int d = someDay(); both(what, () -> x.buyOn(a, k, n, d), () -> y.buyOn(a, k, n, d)); break; }
            case 11: { int c = some(0, 3); int n = some(1, 9999); both(what, () -> x.abroad(a, c, n), () -> y.abroad(a, c, n)); break; }
            case 12: case 13: case 14: case 15: pay(what, a); break;
            case 16: both(what, () -> x.returns(a, e), () -> y.returns(a, e)); break;
            case 17: both(what, () -> x.dispute(a, e), () -> y.dispute(a, e)); break;
            case 18: case 19: case 20: { boolean is = random.nextInt(3) == 0; both(what, () -> x.settle(a, e, is), () -> y.settle(a, e, is)); break; }
            case 21: both(what, () -> x.reverse(a, e), () -> y.reverse(a, e)); break;
            case 22: if (random.nextInt(4) == 0) { both(what, () -> x.plan(a), () -> y.plan(a)); } break;
            default: { int n = some(1, 999); both(what, () -> x.redeem(a, n), () -> y.redeem(a, n)); break; }
        }
    }

    /** Runs differ in how well is paid: not at all, the least, all that is owed, or anything. */
    private void pay(String what, int a) {
        int n = some(1, 9999999);
        Object owed = Checks.answer(() -> y.owed(a));
        Object missing = Checks.answer(() -> y.missing(a));
        if (paying == 0 && !odd()) {
            return;
        }
        if (paying == 1 && missing instanceof Long && (Long) missing > 0) {
            n = (int) Math.max(1, (Long) missing - random.nextInt(2));
        }
        if (paying == 2 && owed instanceof Long && (Long) owed > 0) {
            n = (int) Math.min(9999999, (Long) owed + random.nextInt(3) - 1);
        }
        int cents = n;
        both(what + " pay " + cents, () -> x.pay(a, cents), () -> y.pay(a, cents));
    }

    private void ask(String what, int number, int a) {
        int e = event(a);
        char k = kind();
        int c = cycle();
        int n = some(1, 999999);
        switch (number) {
            case 30: both(what, () -> x.owed(a), () -> y.owed(a)); break;
            case 31: both(what, () -> x.bucket(a, k), () -> y.bucket(a, k)); break;
            case 32: both(what, () -> x.credit(a), () -> y.credit(a)); break;
            case 33: both(what, () -> x.statement(a, c), () -> y.statement(a, c)); break;
            case 34: both(what, () -> x.told(a, c), () -> y.told(a, c)); break;
            case 35: both(what, () -> x.difference(a, c), () -> y.difference(a, c)); break;
            case 36: both(what, () -> x.least(a, c), () -> y.least(a, c)); break;
            case 37: both(what, () -> x.interest(a, c), () -> y.interest(a, c)); break;
            case 38: both(what, () -> x.hadGrace(a, c), () -> y.hadGrace(a, c)); break;
            case 39: both(what, () -> x.paid(a, c), () -> y.paid(a, c)); break;
            case 40: both(what, () -> x.missing(a), () -> y.missing(a)); break;
            case 41: both(what, () -> x.missed(a), () -> y.missed(a)); break;
            case 42: both(what, () -> x.isOff(a), () -> y.isOff(a)); break;
            case 43: both(what, () -> x.points(a), () -> y.points(a)); break;
            case 44: both(what, () -> x.events(a), () -> y.events(a)); break;
            case 45: both(what, () -> x.kindOf(a, e), () -> y.kindOf(a, e)); break;
            case 46: both(what, () -> x.isBack(a, e), () -> y.isBack(a, e)); break;
            case 47: both(what, () -> x.sum(a, e), () -> y.sum(a, e)); break;
            case 48: both(what, () -> x.why(a, k, n), () -> y.why(a, k, n)); break;
            case 49: both(what, () -> x.reasons(a, k, n), () -> y.reasons(a, k, n)); break;
            case 50: both(what, () -> x.collected(), () -> y.collected()); break;
            case 51: both(what, () -> x.today(), () -> y.today()); break;
            case 52: both(what, () -> x.checksum(), () -> y.checksum()); break;
            case 53: both(what, () -> x.missedShare(), () -> y.missedShare()); break;
            case 54: both(what, () -> x.meanOwed(), () -> y.meanOwed()); break;
            default: both(what, () -> x.isSound(), () -> y.isSound()); break;
        }
    }
}
