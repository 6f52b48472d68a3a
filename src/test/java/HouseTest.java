import java.lang.reflect.Field;
import java.util.List;

/** Promises 17, 32, 39 and 41 to 44: points, and sums and shares over the house. */
public final class HouseTest {
    public static void main(String[] args) throws ReflectiveOperationException {
        points();
        collected();
        checksum();
        missedShare();
        meanOwed();
        sound();
        tamperedIsNotSound();
        Checks.end();
    }

    private static StatementCycle house() {
        StatementCycle x = new StatementCycle();
        x.open(9999999);
        return x;
    }

    private static void points() {
        Class<UnsupportedOperationException> fewer = UnsupportedOperationException.class;
        StatementCycle x = house();
        Checks.same("none at first", x.points(0), 0L);
        x.buy(0, 'p', 99);
        x.buy(0, 'p', 199);
        Checks.same("each is cut", x.points(0), 1L);
        x.buy(0, 'c', 1000);
        x.buy(0, 't', 1000);
        Checks.same("of purchases alone", x.points(0), 1L);
        x.abroad(0, 0, 1000);
        Checks.same("abroad too, with its fee", x.points(0), 11L);
        x.buyOn(0, 'p', 100, 0);
        Checks.same("told later too", x.points(0), 12L);
        Checks.fails("more than there are", fewer, () -> x.redeem(0, 13));
        Checks.fails("none", IllegalArgumentException.class, () -> x.redeem(0, 0));
        Checks.fails("too many", IllegalArgumentException.class, () -> x.redeem(0, 1000000));
        Checks.same("redeem", x.redeem(0, 11), 6);
        Checks.same("kind", x.kindOf(0, 6), 'd');
        Checks.same("sum", x.sum(0, 6), 11);
        Checks.same("left", x.points(0), 1L);
        Checks.same("laid by falling rates", x.bucket(0, 'c'), 989L);
        x.reverse(0, 4);
        Checks.same("below 0", x.points(0), -9L);
        Checks.fails("none left", fewer, () -> x.redeem(0, 1));
        StatementCycle y = house();
        y.buy(0, 'p', 1000);
        y.pay(0, 1000);
        y.redeem(0, 10);
        Checks.same("credit of it", y.credit(0), 10L);
        Checks.same("not collected", y.collected(), 1000L);
        Checks.that("sound", y.isSound());
        StatementCycle z = house();
        z.buy(0, 'p', 1000);
        z.setRate(0, 'c', 10);
        z.buy(0, 'c', 1000);
        z.pass(30);
        z.redeem(0, 10);
        Checks.same("not by rising rates", z.bucket(0, 'p'), 990L);
        Checks.same("nothing missing less", z.missing(0), z.least(0, 0));
        z.dispute(0, 0);
        Checks.same("a frozen one keeps its points", z.points(0), 0L);
    }

    private static void collected() {
        StatementCycle x = house();
        x.open(5);
        x.pay(0, 100);
        x.pay(1, 20);
        x.pay(1, 3);
        Checks.same("of all accounts", x.collected(), 123L);
        x.returns(1, 0);
        Checks.same("without what returned", x.collected(), 103L);
    }

    private static void checksum() {
        StatementCycle x = house();
        x.open(1000);
        x.buy(0, 'p', 5000);
        x.buy(0, 'c', 300);
        x.buy(0, 't', 20);
        x.pay(1, 77);
        long sum = 7;
        for (long part : new long[] {5000, 300, 20, 0, 50, 0, 0, 0, 0, 77, 0, 0, 0}) {
            sum = 31 * sum + part;
        }
        Checks.same("checksum", x.checksum(), sum);
        Checks.passTo(x, 57);
        sum = 7;
        long[] parts = {x.bucket(0, 'p'), x.bucket(0, 'c'), x.bucket(0, 't'), 0, 50, 1, 0, 0, 0, 77, 0, 0, 57};
        for (long part : parts) {
            sum = 31 * sum + part;
        }
        Checks.same("checksum of a later day", x.checksum(), sum);
    }

    private static void missedShare() {
        StatementCycle x = house();
        Checks.fails("none due", ArithmeticException.class, () -> x.missedShare());
        x.buy(0, 'p', 10000);
        x.open(5);
        x.open(5);
        Checks.passTo(x, 55);
        Checks.fails("its day has not been gone through", ArithmeticException.class, () -> x.missedShare());
        x.pass(1);
        Checks.same("one of three", x.missedShare(), 1f / 3f);
        x.pay(0, 1000000);
        Checks.passTo(x, 86);
        Checks.same("one of six", x.missedShare(), 1f / 6f);
        x.open(5);
        Checks.same("the statements of a new one are due too", x.missedShare(), 1f / 8f);
        x.reverse(0, 0);
        Checks.same("none of eight", x.missedShare(), 0f);
    }

    private static void meanOwed() {
        Checks.fails("no account", ArithmeticException.class, () -> new StatementCycle().meanOwed());
        StatementCycle x = house();
        Checks.same("nothing", x.meanOwed(), 0.0);
        x.buy(0, 'p', 100);
        x.open(5);
        x.pay(1, 7);
        Checks.same("less credits", x.meanOwed(), 46.5);
        x.open(5);
        Checks.same("of three", x.meanOwed(), 31.0);
    }

    private static StatementCycle usedHouse() {
        StatementCycle x = house();
        x.buy(0, 'p', 20000);
        x.buy(0, 'c', 30000);
        x.pay(0, 500);
        x.returns(0, 2);
        x.promote(0, 100, 20);
        x.pass(30);
        x.buy(0, 't', 4000);
        x.redeem(0, 7);
        x.dispute(0, 0);
        x.pass(30);
        x.pay(0, 900000);
        x.plan(0);
        x.settle(0, 0, true);
        x.pass(30);
        x.open(5);
        return x;
    }

    private static void sound() {
        Checks.that("a new house is sound", new StatementCycle().isSound());
        Checks.that("an account alone is sound", house().isSound());
        StatementCycle x = usedHouse();
        Checks.that("a used one is sound", x.isSound());
        long checksum = x.checksum();
        x.isSound();
        Checks.same("it changes nothing", x.checksum(), checksum);
    }

    // No call can make a house unsound, so the state is reached for by its names.
    private static void tamperedIsNotSound() throws ReflectiveOperationException {
        for (String name : new String[] {"balance", "least", "interest"}) {
            StatementCycle x = usedHouse();
            Checks.that("sound ahead of it", x.isSound());
            Object statement = ((Object[]) part(booksOf(x), "statements"))[1];
            Field f = field(statement, name);
            f.setLong(statement, f.getLong(statement) + 1);
            Checks.same("another " + name + " is not sound", x.isSound(), false);
        }
        StatementCycle graced = usedHouse();
        graced.isSound();
        Object statement = ((Object[]) part(booksOf(graced), "statements"))[2];
        field(statement, "isWithGrace").setBoolean(statement, !graced.hadGrace(0, 2));
        Checks.same("another grace is not sound", graced.isSound(), false);
        StatementCycle paid = usedHouse();
        paid.isSound();
        Object first = ((Object[]) part(booksOf(paid), "statements"))[0];
        field(first, "outcome").setChar(first, 'w');
        Checks.same("another outcome is not sound", paid.isSound(), false);
        StatementCycle given = usedHouse();
        given.isSound();
        field(booksOf(given), "credit").setLong(booksOf(given), given.credit(0) + 1);
        Checks.same("credit out of nothing is not sound", given.isSound(), false);
        for (int b = 0; b < 3; b++) {
            StatementCycle x = usedHouse();
            x.isSound();
            long[] owed = (long[]) part(booksOf(x), "owed");
            long move = owed[b] + 1;
            owed[b] -= move;
            owed[(b + 1) % 3] += move;
            Checks.same("a bucket below 0 is not sound", x.isSound(), false);
        }
    }

    private static Object booksOf(StatementCycle x) throws ReflectiveOperationException {
        return part(((List<?>) part(x, "accounts")).get(0), "books");
    }

    private static Object part(Object of, String name) throws ReflectiveOperationException {
        return field(of, name).get(of);
    }

    private static Field field(Object of, String name) throws ReflectiveOperationException {
        Field f = of.getClass().getDeclaredField(name);
        f.setAccessible(true);
        return f;
    }
}
