import java.util.ArrayList;
import java.util.NoSuchElementException;

public final class StatementCycle {
    private static final int MOST_ACCOUNTS = 4;
    private static final int MOST_EVENTS = 60;
    private static final int LAST_DAY = 360;
    private static final int CYCLE_DAYS = 30;
    private static final int CYCLES = 12;
    private static final int GRACE_DAYS = 25;
    private static final int PLAN_DAYS = 180;
    private static final int MOST_LIMIT = 9999999;
    private static final int MOST_CENTS = 999999;
    private static final int MOST_RATE = 9999;
    private static final int CURRENCIES = 4;
    private static final int BUCKETS = 3;
    private static final int PURCHASES = 0;
    private static final int CASH = 1;
    private static final int TRANSFERS = 2;
    private static final int NO_BUCKET = -1;
    private static final int NEVER = -1;
    private static final long YEAR_PARTS = 3650000L;
    private static final long LEAST_PAYMENT = 2500L;
    private static final long LATE_FEE = 2500L;
    private static final long LATER_FEE = 3500L;
    private static final int RETURN_FEE = 2900;
    private static final int MISSED_TO_WRITE_OFF = 6;
    private static final int WRITTEN_OFF = 1;
    private static final int BLOCKED = 2;
    private static final int ABOVE_LIMIT = 4;
    private static final int ABOVE_CASH = 8;
    private static final int[] FIRST_RATES = {2000, 2500, 2000};

    private final ArrayList<Account> accounts;
    private final int[] worths;
    private final Books recomputed;
    private int day;

    public StatementCycle() {
        accounts = new ArrayList<Account>();
        worths = new int[] {1000, 1000, 1000, 1000};
        recomputed = new Books();
    }

    public int open(int limit) throws IllegalArgumentException, IllegalStateException {
        checkRange(limit, 0, MOST_LIMIT);
        if (accounts.size() >= MOST_ACCOUNTS) {
            throw new IllegalStateException();
        }
        accounts.add(new Account(limit, day / CYCLE_DAYS));
        return accounts.size() - 1;
    }

    public int setLimit(int account, int limit) throws IndexOutOfBoundsException, IllegalArgumentException {
        Account a = accountAt(account);
        checkRange(limit, 0, MOST_LIMIT);
        int before = a.limit;
        a.limit = limit;
        return before;
    }

    public boolean block(int account, boolean is) throws IndexOutOfBoundsException {
        Account a = accountAt(account);
        boolean before = a.isBlocked;
        a.isBlocked = is;
        return before;
    }

    public int setRate(int account, char kind, int rate)
            throws IndexOutOfBoundsException, IllegalArgumentException, IllegalStateException {
        Account a = accountAt(account);
        int bucket = bucketOf(kind);
        checkRange(rate, 0, MOST_RATE);
        checkRoom(a);
        Event change = new Event('r', bucket, 0, day);
        change.rate = rate;
        return a.tell(change);
    }

    public int promote(int account, int rate, int days)
            throws IndexOutOfBoundsException, IllegalArgumentException, IllegalStateException {
        Account a = accountAt(account);
        checkRange(rate, 0, MOST_RATE);
        checkRange(days, 1, LAST_DAY);
        checkRoom(a);
        Event promotion = new Event('o', TRANSFERS, 0, day);
        promotion.rate = rate;
        promotion.days = days;
        return a.tell(promotion);
    }

    public int setCurrency(int currency, int thousandths) throws IllegalArgumentException {
        checkRange(currency, 0, CURRENCIES - 1);
        checkRange(thousandths, 1, 99999);
        int before = worths[currency];
        worths[currency] = thousandths;
        return before;
    }

    public int buy(int account, char kind, int cents)
            throws IndexOutOfBoundsException, IllegalArgumentException, UnsupportedOperationException,
            IllegalStateException {
        Account a = accountAt(account);
        int bucket = bucketOf(kind);
        checkRange(cents, 1, MOST_CENTS);
        if (reasonsAgainst(a, booksOf(a), bucket, cents) != 0) {
            throw new UnsupportedOperationException();
        }
        checkRoom(a);
        return a.tell(new Event('b', bucket, cents, day));
    }

    public int buyOn(int account, char kind, int cents, int day)
            throws IndexOutOfBoundsException, IllegalArgumentException, IllegalStateException {
        Account a = accountAt(account);
        int bucket = bucketOf(kind);
        checkRange(cents, 1, MOST_CENTS);
        checkRange(day, 0, this.day);
        checkRoom(a);
        return a.tell(new Event('b', bucket, cents, day));
    }

    public int abroad(int account, int currency, int units)
            throws IndexOutOfBoundsException, IllegalArgumentException, UnsupportedOperationException,
            IllegalStateException {
        Account a = accountAt(account);
        checkRange(currency, 0, CURRENCIES - 1);
        checkRange(units, 1, 9999);
        int plain = (units * worths[currency] + 500) / 1000;
        int cents = plain + plain * 3 / 100;
        if (cents == 0 || reasonsAgainst(a, booksOf(a), PURCHASES, cents) != 0) {
            throw new UnsupportedOperationException();
        }
        checkRoom(a);
        return a.tell(new Event('b', PURCHASES, cents, day));
    }

    public int pay(int account, int cents)
            throws IndexOutOfBoundsException, IllegalArgumentException, IllegalStateException {
        Account a = accountAt(account);
        checkRange(cents, 1, 9999999);
        checkRoom(a);
        return a.tell(new Event('y', NO_BUCKET, cents, day));
    }

    public int returns(int account, int event)
            throws IndexOutOfBoundsException, UnsupportedOperationException, IllegalStateException {
        Account a = accountAt(account);
        Event payment = eventAt(a, event);
        if (payment.kind != 'y' || payment.isBack) {
            throw new UnsupportedOperationException();
        }
        checkRoom(a);
        a.takeBack(payment);
        return a.tell(new Event('f', PURCHASES, RETURN_FEE, day));
    }

    public int dispute(int account, int event) throws IndexOutOfBoundsException, UnsupportedOperationException {
        Account a = accountAt(account);
        Event buy = eventAt(a, event);
        if (buy.kind != 'b' || buy.isBack || buy.disputedOn != NEVER) {
            throw new UnsupportedOperationException();
        }
        buy.disputedOn = day;
        a.disputed.add(buy);
        a.isStale = true;
        return a.countFrozen();
    }

    public long settle(int account, int event, boolean isWon)
            throws IndexOutOfBoundsException, UnsupportedOperationException {
        Account a = accountAt(account);
        Event buy = eventAt(a, event);
        if (!buy.isFrozen()) {
            throw new UnsupportedOperationException();
        }
        buy.settledOn = day;
        a.isStale = true;
        if (isWon) {
            a.takeBack(buy);
        }
        return booksOf(a).net();
    }

    public long reverse(int account, int event) throws IndexOutOfBoundsException, UnsupportedOperationException {
        Account a = accountAt(account);
        Event buy = eventAt(a, event);
        if (buy.kind != 'b' || buy.isFrozen() || buy.isBack) {
            throw new UnsupportedOperationException();
        }
        a.takeBack(buy);
        return booksOf(a).net();
    }

    public int plan(int account)
            throws IndexOutOfBoundsException, UnsupportedOperationException, IllegalStateException {
        Account a = accountAt(account);
        if (a.hasPlan() || booksOf(a).isOff) {
            throw new UnsupportedOperationException();
        }
        checkRoom(a);
        return a.tell(new Event('h', NO_BUCKET, 0, day));
    }

    public int redeem(int account, int points)
            throws IndexOutOfBoundsException, IllegalArgumentException, UnsupportedOperationException,
            IllegalStateException {
        Account a = accountAt(account);
        checkRange(points, 1, 999999);
        if (a.countPoints() < points) {
            throw new UnsupportedOperationException();
        }
        checkRoom(a);
        return a.tell(new Event('d', NO_BUCKET, points, day));
    }

    public int pass(int days) throws IllegalArgumentException, IllegalStateException {
        checkRange(days, 1, 30);
        if (day + days > LAST_DAY) {
            throw new IllegalStateException();
        }
        // At most 30 days go by, so no cycle but this one can be closed in the call.
        int cycle = day / CYCLE_DAYS;
        day += days;
        boolean isClosed = day / CYCLE_DAYS > cycle && cycle < CYCLES;
        for (int i = 0; i < accounts.size(); i++) {
            Account a = accounts.get(i);
            a.isStale = true;
            if (isClosed) {
                a.balancesTold[cycle] = booksOf(a).statements[cycle].balance;
            }
        }
        return day;
    }

    public long owed(int account) throws IndexOutOfBoundsException {
        return booksOf(accountAt(account)).net();
    }

    public long bucket(int account, char kind) throws IndexOutOfBoundsException, IllegalArgumentException {
        Account a = accountAt(account);
        int bucket = bucketOf(kind);
        return booksOf(a).owed[bucket];
    }

    public long credit(int account) throws IndexOutOfBoundsException {
        return booksOf(accountAt(account)).credit;
    }

    public long statement(int account, int cycle) throws IndexOutOfBoundsException, NoSuchElementException {
        return statementAt(accountAt(account), cycle).balance;
    }

    public long told(int account, int cycle) throws IndexOutOfBoundsException, NoSuchElementException {
        return toldOf(accountAt(account), cycle);
    }

    public long difference(int account, int cycle) throws IndexOutOfBoundsException, NoSuchElementException {
        Account a = accountAt(account);
        long before = toldOf(a, cycle);
        return statementAt(a, cycle).balance - before;
    }

    public long least(int account, int cycle) throws IndexOutOfBoundsException, NoSuchElementException {
        return statementAt(accountAt(account), cycle).least;
    }

    public long interest(int account, int cycle) throws IndexOutOfBoundsException, NoSuchElementException {
        return statementAt(accountAt(account), cycle).interest;
    }

    public boolean hadGrace(int account, int cycle) throws IndexOutOfBoundsException, NoSuchElementException {
        return statementAt(accountAt(account), cycle).isWithGrace;
    }

    public char paid(int account, int cycle) throws IndexOutOfBoundsException, NoSuchElementException {
        return statementAt(accountAt(account), cycle).outcome;
    }

    public long missing(int account) throws IndexOutOfBoundsException {
        return booksOf(accountAt(account)).stillMissing();
    }

    public int missed(int account) throws IndexOutOfBoundsException {
        return booksOf(accountAt(account)).missedStatements;
    }

    public boolean isOff(int account) throws IndexOutOfBoundsException {
        return booksOf(accountAt(account)).isOff;
    }

    public long points(int account) throws IndexOutOfBoundsException {
        return accountAt(account).countPoints();
    }

    public int events(int account) throws IndexOutOfBoundsException {
        return accountAt(account).events.size();
    }

    public char kindOf(int account, int event) throws IndexOutOfBoundsException {
        return eventAt(accountAt(account), event).kind;
    }

    public boolean isBack(int account, int event) throws IndexOutOfBoundsException {
        return eventAt(accountAt(account), event).isBack;
    }

    public int sum(int account, int event) throws IndexOutOfBoundsException {
        return eventAt(accountAt(account), event).cents;
    }

    public char why(int account, char kind, int cents) throws IndexOutOfBoundsException, IllegalArgumentException {
        Account a = accountAt(account);
        int bucket = bucketOf(kind);
        checkRange(cents, 1, MOST_CENTS);
        int against = reasonsAgainst(a, booksOf(a), bucket, cents);
        if ((against & WRITTEN_OFF) != 0) {
            return 'x';
        }
        if ((against & BLOCKED) != 0) {
            return 'b';
        }
        if ((against & ABOVE_LIMIT) != 0) {
            return 'l';
        }
        return (against & ABOVE_CASH) != 0 ? 'c' : '-';
    }

    public int reasons(int account, char kind, int cents) throws IndexOutOfBoundsException, IllegalArgumentException {
        Account a = accountAt(account);
        int bucket = bucketOf(kind);
        checkRange(cents, 1, MOST_CENTS);
        return Integer.bitCount(reasonsAgainst(a, booksOf(a), bucket, cents));
    }

    public long collected() {
        long all = 0;
        for (int i = 0; i < accounts.size(); i++) {
            all += accounts.get(i).sumOf('y');
        }
        return all;
    }

    public int today() {
        return day;
    }

    public long checksum() {
        long sum = 7;
        for (int i = 0; i < accounts.size(); i++) {
            Account a = accounts.get(i);
            Books books = booksOf(a);
            for (int b = 0; b < BUCKETS; b++) {
                sum = 31 * sum + books.owed[b];
            }
            sum = 31 * sum + books.credit;
            sum = 31 * sum + a.countPoints();
            sum = 31 * sum + books.missedStatements;
        }
        return 31 * sum + day;
    }

    public float missedShare() throws ArithmeticException {
        int missedOnes = 0;
        int dueOnes = 0;
        for (int i = 0; i < accounts.size(); i++) {
            Books books = booksOf(accounts.get(i));
            missedOnes += books.missedStatements;
            dueOnes += books.dueStatements;
        }
        if (dueOnes == 0) {
            throw new ArithmeticException();
        }
        return (float) missedOnes / (float) dueOnes;
    }

    public double meanOwed() throws ArithmeticException {
        int count = accounts.size();
        if (count == 0) {
            throw new ArithmeticException();
        }
        long all = 0;
        for (int i = 0; i < count; i++) {
            all += booksOf(accounts.get(i)).net();
        }
        return (double) all / (double) count;
    }

    public boolean isSound() {
        for (int i = 0; i < accounts.size(); i++) {
            Account a = accounts.get(i);
            Books books = booksOf(a);
            recomputed.goThrough(a, day);
            if (!books.isBalanced(a) || !books.hasStatementsOf(recomputed)) {
                return false;
            }
        }
        return true;
    }

    private Account accountAt(int account) {
        if (account < 0 || account >= accounts.size()) {
            throw new IndexOutOfBoundsException();
        }
        return accounts.get(account);
    }

    private static Event eventAt(Account a, int event) {
        if (event < 0 || event >= a.events.size()) {
            throw new IndexOutOfBoundsException();
        }
        return a.events.get(event);
    }

    private Books booksOf(Account a) {
        if (a.isStale) {
            a.books.goThrough(a, day);
            a.isStale = false;
        }
        return a.books;
    }

    private Statement statementAt(Account a, int cycle) {
        Books books = booksOf(a);
        if (cycle < 0 || cycle >= books.closed || cycle >= CYCLES) {
            throw new NoSuchElementException();
        }
        return books.statements[cycle];
    }

    private long toldOf(Account a, int cycle) {
        if (cycle < a.firstCycle || cycle >= day / CYCLE_DAYS || cycle < 0 || cycle >= CYCLES) {
            throw new NoSuchElementException();
        }
        return a.balancesTold[cycle];
    }

    private static int reasonsAgainst(Account a, Books books, int bucket, int cents) {
        int against = 0;
        if (books.isOff) {
            against |= WRITTEN_OFF;
        }
        if (a.isBlocked) {
            against |= BLOCKED;
        }
        if (books.net() + cents > a.limit) {
            against |= ABOVE_LIMIT;
        }
        if (bucket == CASH && books.owed[CASH] + Math.max(0, cents - books.credit) > a.limit / 5) {
            against |= ABOVE_CASH;
        }
        return against;
    }

    private static int bucketOf(char kind) {
        switch (kind) {
            case 'p':
                return PURCHASES;
            case 'c':
                return CASH;
            case 't':
                return TRANSFERS;
            default:
                throw new IllegalArgumentException();
        }
    }

    private static boolean isBucket(int bucket) {
        return bucket >= 0 && bucket < BUCKETS;
    }

    private static void checkRange(int number, int low, int high) {
        if (number < low || number > high) {
            throw new IllegalArgumentException();
        }
    }

    private static void checkRoom(Account a) {
        if (a.events.size() >= MOST_EVENTS) {
            throw new IllegalStateException();
        }
    }

    private static final class Event {
        private final char kind;
        private final int bucket;
        private final int cents;
        private final int day;
        private int rate;
        private int days;
        private boolean isBack;
        private int disputedOn;
        private int settledOn;

        private Event(char kind, int bucket, int cents, int day) {
            this.kind = kind;
            this.bucket = bucket;
            this.cents = cents;
            this.day = day;
            disputedOn = NEVER;
            settledOn = NEVER;
        }

        private boolean isFrozen() {
            return disputedOn != NEVER && settledOn == NEVER;
        }

        // A buy that is taken back is as if it had never been told, so it never froze anything either.
        private boolean wasFrozenOn(int day) {
            return !isBack && disputedOn != NEVER && day >= disputedOn && (settledOn == NEVER || day < settledOn);
        }
    }

    private static final class Account {
        private final ArrayList<Event> events;
        private final ArrayList<Event> byDay;
        private final ArrayList<Event> disputed;
        private final int firstCycle;
        private final long[] balancesTold;
        private final Books books;
        private int limit;
        private boolean isBlocked;
        private boolean isStale;

        private Account(int limit, int firstCycle) {
            this.limit = limit;
            this.firstCycle = firstCycle;
            events = new ArrayList<Event>();
            byDay = new ArrayList<Event>();
            disputed = new ArrayList<Event>();
            balancesTold = new long[CYCLES];
            books = new Books();
            isStale = true;
        }

        private int tell(Event e) {
            int at = byDay.size();
            while (at > 0 && byDay.get(at - 1).day > e.day) {
                at--;
            }
            byDay.add(at, e);
            events.add(e);
            isStale = true;
            return events.size() - 1;
        }

        private void takeBack(Event e) {
            e.isBack = true;
            isStale = true;
        }

        private int countFrozen() {
            int count = 0;
            for (int i = 0; i < disputed.size(); i++) {
                if (disputed.get(i).isFrozen()) {
                    count++;
                }
            }
            return count;
        }

        private long frozenOn(int day, int bucket) {
            long frozen = 0;
            for (int i = 0; i < disputed.size(); i++) {
                Event e = disputed.get(i);
                if (e.bucket == bucket && e.wasFrozenOn(day)) {
                    frozen += e.cents;
                }
            }
            return frozen;
        }

        private boolean hasPlan() {
            for (int i = 0; i < events.size(); i++) {
                if (events.get(i).kind == 'h') {
                    return true;
                }
            }
            return false;
        }

        private long countPoints() {
            long count = 0;
            for (int i = 0; i < events.size(); i++) {
                Event e = events.get(i);
                if (e.kind == 'b' && e.bucket == PURCHASES && !e.isBack) {
                    count += e.cents / 100;
                } else if (e.kind == 'd') {
                    count -= e.cents;
                }
            }
            return count;
        }

        private long sumOf(char kind) {
            long all = 0;
            for (int i = 0; i < events.size(); i++) {
                Event e = events.get(i);
                if (e.kind == kind && !e.isBack) {
                    all += e.cents;
                }
            }
            return all;
        }
    }

    private static final class Statement {
        private long balance;
        private long least;
        private long interest;
        private boolean isWithGrace;
        private char outcome;

        private boolean isLike(Statement other) {
            return balance == other.balance && least == other.least && interest == other.interest
                    && isWithGrace == other.isWithGrace && outcome == other.outcome;
        }
    }

    /** What comes of the events of an account, day by day. */
    private static final class Books {
        private final long[] owed;
        private final long[] accrued;
        private final int[] rates;
        private final int[] ratesOfDay;
        private final Statement[] statements;
        private long credit;
        private int promotedRate;
        private int promotedUntil;
        private int planUntil;
        private boolean isOff;
        private long paidSinceClosing;
        private long feesOfCycle;
        private long lateFees;
        private int closed;
        private int dueStatements;
        private int missedStatements;
        private int missedInARow;

        private Books() {
            owed = new long[BUCKETS];
            accrued = new long[BUCKETS];
            rates = new int[BUCKETS];
            ratesOfDay = new int[BUCKETS];
            statements = new Statement[CYCLES];
            for (int i = 0; i < CYCLES; i++) {
                statements[i] = new Statement();
            }
        }

        private void goThrough(Account a, int today) {
            clear();
            int next = 0;
            for (int day = 0; day <= today; day++) {
                int end = next;
                while (end < a.byDay.size() && a.byDay.get(end).day <= day) {
                    end++;
                }
                changeTerms(a, next, end, day);
                if (day > 0 && day % CYCLE_DAYS == 0) {
                    close(day);
                }
                for (int i = next; i < end; i++) {
                    happen(a.byDay.get(i));
                }
                next = end;
                if (day < today) {
                    endDay(a, day);
                }
            }
        }

        private void clear() {
            for (int b = 0; b < BUCKETS; b++) {
                owed[b] = 0;
                accrued[b] = 0;
                rates[b] = FIRST_RATES[b];
            }
            credit = 0;
            promotedRate = 0;
            promotedUntil = 0;
            planUntil = 0;
            isOff = false;
            paidSinceClosing = 0;
            feesOfCycle = 0;
            lateFees = 0;
            closed = 0;
            dueStatements = 0;
            missedStatements = 0;
            missedInARow = 0;
        }

        // Rates and plans hold for the whole of their day, so they go ahead of all else on it.
        private void changeTerms(Account a, int from, int end, int day) {
            for (int i = from; i < end; i++) {
                Event e = a.byDay.get(i);
                if (e.kind == 'r' && isBucket(e.bucket)) {
                    rates[e.bucket] = e.rate;
                } else if (e.kind == 'o') {
                    promotedRate = e.rate;
                    promotedUntil = e.day + e.days;
                } else if (e.kind == 'h') {
                    planUntil = e.day + PLAN_DAYS;
                }
            }
            for (int b = 0; b < BUCKETS; b++) {
                ratesOfDay[b] = rates[b];
            }
            if (day < promotedUntil) {
                ratesOfDay[TRANSFERS] = promotedRate;
            }
        }

        private void close(int day) {
            int cycle = day / CYCLE_DAYS - 1;
            if (cycle < 0 || cycle >= CYCLES) {
                return;
            }
            Statement s = statements[cycle];
            s.isWithGrace = wasPaidInFull(cycle - 1) && wasPaidInFull(cycle - 2);
            s.interest = chargeInterest(s.isWithGrace);
            s.balance = net();
            s.least = leastOf(s, day);
            s.outcome = 'w';
            paidSinceClosing = 0;
            feesOfCycle = 0;
            closed = cycle + 1;
        }

        private boolean wasPaidInFull(int cycle) {
            return cycle < 0 || cycle >= CYCLES || statements[cycle].outcome == 'f';
        }

        private long chargeInterest(boolean isWithGrace) {
            long all = 0;
            for (int b = 0; b < BUCKETS; b++) {
                if (b != PURCHASES || !isWithGrace) {
                    long part = (accrued[b] + YEAR_PARTS / 2) / YEAR_PARTS;
                    owed[b] += part;
                    all += part;
                }
                accrued[b] = 0;
            }
            return all;
        }

        private long leastOf(Statement s, int day) {
            if (isOff || s.balance <= 0) {
                return 0;
            }
            if (day < planUntil) {
                return Math.min(s.balance, LEAST_PAYMENT);
            }
            long share = s.balance / 100 + s.interest + feesOfCycle;
            return Math.min(s.balance, Math.max(share, LEAST_PAYMENT));
        }

        private void happen(Event e) {
            if (e.isBack) {
                return;
            }
            switch (e.kind) {
                case 'b':
                    takeBuy(e.bucket, e.cents);
                    break;
                case 'y':
                    takePayment(e.cents);
                    break;
                case 'd':
                    credit += lay(e.cents, false);
                    break;
                case 'f':
                    chargeFee(e.cents);
                    break;
                default:
                    break;
            }
        }

        private void takeBuy(int bucket, long cents) {
            if (isBucket(bucket)) {
                long ofCredit = Math.min(credit, cents);
                credit -= ofCredit;
                owed[bucket] += cents - ofCredit;
            }
        }

        private void takePayment(long cents) {
            long low = Math.min(stillMissing(), cents);
            paidSinceClosing += cents;
            credit += lay(low, true);
            credit += lay(cents - low, false);
        }

        private long stillMissing() {
            if (closed <= 0 || closed > CYCLES) {
                return 0;
            }
            return Math.max(0, statements[closed - 1].least - paidSinceClosing);
        }

        // Returns what is left when nothing is owed any more.
        private long lay(long cents, boolean isRising) {
            long left = cents;
            int served = 0;
            for (int turn = 0; turn < BUCKETS; turn++) {
                int b = nextBucket(served, isRising);
                if (isBucket(b)) {
                    long part = Math.min(left, owed[b]);
                    owed[b] -= part;
                    left -= part;
                    served |= 1 << b;
                }
            }
            return left;
        }

        private int nextBucket(int served, boolean isRising) {
            int best = NO_BUCKET;
            for (int b = 0; b < BUCKETS; b++) {
                boolean isServed = (served >> b & 1) == 1;
                if (isServed) {
                    continue;
                }
                if (best == NO_BUCKET
                        || (isRising ? ratesOfDay[b] < ratesOfDay[best] : ratesOfDay[b] > ratesOfDay[best])) {
                    best = b;
                }
            }
            return best;
        }

        private void chargeFee(long cents) {
            owed[PURCHASES] += cents;
            feesOfCycle += cents;
        }

        private void endDay(Account a, int day) {
            if (closed > 0 && day % CYCLE_DAYS == GRACE_DAYS) {
                fallDue(closed - 1);
            }
            if (isOff || day < planUntil) {
                return;
            }
            for (int b = 0; b < BUCKETS; b++) {
                accrued[b] += Math.max(0, owed[b] - a.frozenOn(day, b)) * ratesOfDay[b];
            }
        }

        private void fallDue(int cycle) {
            if (cycle < 0 || cycle >= CYCLES) {
                return;
            }
            Statement s = statements[cycle];
            dueStatements++;
            if (paidSinceClosing >= s.least) {
                s.outcome = paidSinceClosing >= s.balance ? 'f' : 'l';
                missedInARow = 0;
                return;
            }
            s.outcome = 'm';
            missedStatements++;
            missedInARow++;
            if (missedInARow >= MISSED_TO_WRITE_OFF) {
                isOff = true;
                return;
            }
            long fee = wasOneMissed(cycle) ? LATER_FEE : LATE_FEE;
            lateFees += fee;
            chargeFee(fee);
        }

        private boolean wasOneMissed(int cycle) {
            for (int i = Math.max(0, cycle - 6); i < cycle && i < CYCLES; i++) {
                if (statements[i].outcome == 'm') {
                    return true;
                }
            }
            return false;
        }

        private long net() {
            return owed[PURCHASES] + owed[CASH] + owed[TRANSFERS] - credit;
        }

        private boolean isBalanced(Account a) {
            if (owed[PURCHASES] < 0 || owed[CASH] < 0 || owed[TRANSFERS] < 0 || credit < 0) {
                return false;
            }
            long charged = a.sumOf('b') + a.sumOf('f') + lateFees;
            for (int i = 0; i < closed && i < CYCLES; i++) {
                charged += statements[i].interest;
            }
            return charged == net() + a.sumOf('y') + a.sumOf('d');
        }

        private boolean hasStatementsOf(Books other) {
            if (closed != other.closed) {
                return false;
            }
            for (int i = 0; i < closed && i < CYCLES; i++) {
                if (!statements[i].isLike(other.statements[i])) {
                    return false;
                }
            }
            return true;
        }
    }
}
