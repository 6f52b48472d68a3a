import java.util.ArrayList;
import java.util.Arrays;
import java.util.Comparator;
import java.util.HashMap;
import java.util.List;
import java.util.Map;
import java.util.NoSuchElementException;

/**
 * The document once more, written for plainness alone: nothing is kept but what was told, and each question goes
 * through all days anew, looking up each rate, plan and frozen sum among all events.
 */
final class PlainHouse {
    private static final String KINDS = "pct";

    private static final class Told {
        char kind;
        char bucket;
        int cents;
        int rate;
        int days;
        int day;
        int number;
        boolean back;
        Integer disputed;
        Integer settled;
    }

    private static final class Card {
        int limit;
        boolean blocked;
        List<Told> events = new ArrayList<>();
        Map<Integer, Long> told = new HashMap<>();
    }

    private static final class Bill {
        long balance;
        long least;
        long interest;
        boolean grace;
        char paid = 'w';
    }

    /** An account as it is on the day of now. */
    private static final class State {
        Map<Character, Long> owed = new HashMap<>(Map.of('p', 0L, 'c', 0L, 't', 0L));
        Map<Character, Long> accrued = new HashMap<>(Map.of('p', 0L, 'c', 0L, 't', 0L));
        long credit;
        long fees;
        boolean off;
        List<Bill> bills = new ArrayList<>();

        long net() {
            return owed.get('p') + owed.get('c') + owed.get('t') - credit;
        }

        int count(char paid) {
            return (int) bills.stream().filter(b -> b.paid == paid).count();
        }
    }

    private final List<Card> cards = new ArrayList<>();
    private final int[] worth = {1000, 1000, 1000, 1000};
    private int now;

    // What comes of events.

    private static int rate(Card c, char kind, int day) {
        int rate = kind == 'c' ? 2500 : 2000;
        Told promotion = null;
        for (Told e : c.events) {
            if (e.day <= day && e.kind == 'r' && e.bucket == kind) {
                rate = e.rate;
            }
            if (e.day <= day && e.kind == 'o') {
                promotion = e;
            }
        }
        boolean on = kind == 't' && promotion != null && day < promotion.day + promotion.days;
        return on ? promotion.rate : rate;
    }

    private static boolean planned(Card c, int day) {
        return c.events.stream().anyMatch(e -> e.kind == 'h' && day >= e.day && day <= e.day + 179);
    }

    private static long frozen(Card c, char kind, int day) {
        return c.events.stream()
                .filter(e -> e.kind == 'b' && e.bucket == kind && !e.back && e.disputed != null)
                .filter(e -> e.disputed <= day && (e.settled == null || e.settled > day))
                .mapToLong(e -> e.cents).sum();
    }

    private static long paidBetween(Card c, int from, int to, int below) {
        return c.events.stream()
                .filter(e -> e.kind == 'y' && !e.back && e.day >= from && e.day <= to && e.number < below)
                .mapToLong(e -> e.cents).sum();
    }

    private State state(Card c) {
        State s = new State();
        List<Told> order = new ArrayList<>(c.events);
        order.sort(Comparator.comparingInt((Told e) -> e.day).thenComparingInt(e -> e.number));
        for (int day = 0; day <= now; day++) {
            if (day % 30 == 0 && day > 0) {
                close(c, s, day);
            }
            for (Told e : order) {
                if (e.day == day && !e.back) {
                    apply(c, s, e);
                }
            }
            if (day == now) {
                break;
            }
            if (day >= 55 && (day - 55) % 30 == 0) {
                due(c, s, day);
            }
            if (!s.off && !planned(c, day)) {
                for (char k : KINDS.toCharArray()) {
                    long base = Math.max(0, s.owed.get(k) - frozen(c, k, day));
                    s.accrued.merge(k, base * rate(c, k, day), Long::sum);
                }
            }
        }
        return s;
    }

    private void close(Card c, State s, int day) {
        Bill b = new Bill();
        int number = s.bills.size();
        b.grace = (number < 1 || s.bills.get(number - 1).paid == 'f') && (number < 2 || s.bills.get(number - 2).paid == 'f');
        for (char k : KINDS.toCharArray()) {
            long raw = s.accrued.put(k, 0L);
            long part = raw / 3650000 + (raw % 3650000 * 2 >= 3650000 ? 1 : 0);
            if (k == 'p' && b.grace) {
                part = 0;
            }
            s.owed.merge(k, part, Long::sum);
            b.interest += part;
        }
        b.balance = s.net();
        if (!s.off && b.balance > 0) {
            b.least = planned(c, day) ? 2500 : Math.max(2500, b.balance / 100 + b.interest + s.fees);
            b.least = Math.min(b.least, b.balance);
        }
        s.fees = 0;
        s.bills.add(b);
    }

    private void due(Card c, State s, int day) {
        int number = day / 30 - 1;
        Bill b = s.bills.get(number);
        long paid = paidBetween(c, day - 25, day, 60);
        if (paid >= b.least) {
            b.paid = paid >= b.balance ? 'f' : 'l';
            return;
        }
        b.paid = 'm';
        List<Bill> ahead = s.bills.subList(Math.max(0, number - 6), number);
        boolean sixth = number >= 5 && s.bills.subList(number - 5, number + 1).stream().allMatch(x -> x.paid == 'm');
        if (sixth) {
            s.off = true;
            return;
        }
        long fee = ahead.stream().anyMatch(x -> x.paid == 'm') ? 3500 : 2500;
        s.owed.merge('p', fee, Long::sum);
        s.fees += fee;
    }

    private void apply(Card c, State s, Told e) {
        if (e.kind == 'b') {
            long taken = Math.min(s.credit, e.cents);
            s.credit -= taken;
            s.owed.merge(e.bucket, e.cents - taken, Long::sum);
        } else if (e.kind == 'f') {
            s.owed.merge('p', 2900L, Long::sum);
            s.fees += 2900;
        } else if (e.kind == 'd') {
            s.credit += lay(c, s, e, e.cents, -1);
        } else if (e.kind == 'y') {
            long low = 0;
            if (!s.bills.isEmpty()) {
                int closed = s.bills.size() * 30;
                long missing = s.bills.get(s.bills.size() - 1).least - paidBetween(c, closed, e.day, e.number);
                low = Math.min(e.cents, Math.max(0, missing));
            }
            s.credit += lay(c, s, e, low, 1);
            s.credit += lay(c, s, e, e.cents - low, -1);
        }
    }

    private static long lay(Card c, State s, Told e, long cents, int sign) {
        Character[] order = {'p', 'c', 't'};
        Arrays.sort(order, Comparator.comparingInt(k -> sign * rate(c, k, e.day)));
        for (char k : order) {
            long part = Math.min(cents, s.owed.get(k));
            s.owed.merge(k, -part, Long::sum);
            cents -= part;
        }
        return cents;
    }

    // The face.

    int open(int limit) {
        range(limit, 0, 9999999);
        if (cards.size() == 4) {
            throw new IllegalStateException();
        }
        Card c = new Card();
        c.limit = limit;
        cards.add(c);
        return cards.size() - 1;
    }

    int setLimit(int account, int limit) {
        Card c = card(account);
        range(limit, 0, 9999999);
        int before = c.limit;
        c.limit = limit;
        return before;
    }

    boolean block(int account, boolean is) {
        boolean before = card(account).blocked;
        card(account).blocked = is;
        return before;
    }

    int setRate(int account, char kind, int rate) {
        Card c = card(account);
        kind(kind);
        range(rate, 0, 9999);
        Told e = add(c, 'r', kind, 0, now);
        e.rate = rate;
        return e.number;
    }

    int promote(int account, int rate, int days) {
        Card c = card(account);
        range(rate, 0, 9999);
        range(days, 1, 360);
        Told e = add(c, 'o', 't', 0, now);
        e.rate = rate;
        e.days = days;
        return e.number;
    }

    int setCurrency(int currency, int thousandths) {
        range(currency, 0, 3);
        range(thousandths, 1, 99999);
        int before = worth[currency];
        worth[currency] = thousandths;
        return before;
    }

    int buy(int account, char kind, int cents) {
        Card c = card(account);
        kind(kind);
        range(cents, 1, 999999);
        if (!against(c, kind, cents).isEmpty()) {
            throw new UnsupportedOperationException();
        }
        return add(c, 'b', kind, cents, now).number;
    }

    int buyOn(int account, char kind, int cents, int day) {
        Card c = card(account);
        kind(kind);
        range(cents, 1, 999999);
        range(day, 0, now);
        return add(c, 'b', kind, cents, day).number;
    }

    int abroad(int account, int currency, int units) {
        Card c = card(account);
        range(currency, 0, 3);
        range(units, 1, 9999);
        long product = (long) units * worth[currency];
        long cents = product / 1000 + (product % 1000 >= 500 ? 1 : 0);
        cents += cents * 3 / 100;
        if (cents == 0 || !against(c, 'p', cents).isEmpty()) {
            throw new UnsupportedOperationException();
        }
        return add(c, 'b', 'p', (int) cents, now).number;
    }

    int pay(int account, int cents) {
        Card c = card(account);
        range(cents, 1, 9999999);
        return add(c, 'y', '-', cents, now).number;
    }

    int returns(int account, int event) {
        Card c = card(account);
        Told e = event(c, event);
        if (e.kind != 'y' || e.back) {
            throw new UnsupportedOperationException();
        }
        int number = add(c, 'f', 'p', 2900, now).number;
        e.back = true;
        return number;
    }

    int dispute(int account, int event) {
        Card c = card(account);
        Told e = event(c, event);
        if (e.kind != 'b' || e.back || e.disputed != null) {
            throw new UnsupportedOperationException();
        }
        e.disputed = now;
        return (int) c.events.stream().filter(PlainHouse::stillFrozen).count();
    }

    long settle(int account, int event, boolean isWon) {
        Card c = card(account);
        Told e = event(c, event);
        if (!stillFrozen(e)) {
            throw new UnsupportedOperationException();
        }
        e.settled = now;
        e.back = isWon;
        return state(c).net();
    }

    long reverse(int account, int event) {
        Card c = card(account);
        Told e = event(c, event);
        if (e.kind != 'b' || e.back || stillFrozen(e)) {
            throw new UnsupportedOperationException();
        }
        e.back = true;
        return state(c).net();
    }

    int plan(int account) {
        Card c = card(account);
        if (c.events.stream().anyMatch(e -> e.kind == 'h') || state(c).off) {
            throw new UnsupportedOperationException();
        }
        return add(c, 'h', '-', 0, now).number;
    }

    int redeem(int account, int points) {
        Card c = card(account);
        range(points, 1, 999999);
        if (points(account) < points) {
            throw new UnsupportedOperationException();
        }
        return add(c, 'd', '-', points, now).number;
    }

    int pass(int days) {
        range(days, 1, 30);
        if (now + days > 360) {
            throw new IllegalStateException();
        }
        for (int i = 0; i < days; i++) {
            now++;
            if (now % 30 == 0) {
                int cycle = now / 30 - 1;
                cards.forEach(c -> c.told.put(cycle, state(c).bills.get(cycle).balance));
            }
        }
        return now;
    }

    long owed(int account) {
        return state(card(account)).net();
    }

    long bucket(int account, char kind) {
        Card c = card(account);
        kind(kind);
        return state(c).owed.get(kind);
    }

    long credit(int account) {
        return state(card(account)).credit;
    }

    long statement(int account, int cycle) {
        return bill(account, cycle).balance;
    }

    long told(int account, int cycle) {
        Long told = card(account).told.get(cycle);
        if (told == null) {
            throw new NoSuchElementException();
        }
        return told;
    }

    long difference(int account, int cycle) {
        return -(told(account, cycle) - bill(account, cycle).balance);
    }

    long least(int account, int cycle) {
        return bill(account, cycle).least;
    }

    long interest(int account, int cycle) {
        return bill(account, cycle).interest;
    }

    boolean hadGrace(int account, int cycle) {
        return bill(account, cycle).grace;
    }

    char paid(int account, int cycle) {
        return bill(account, cycle).paid;
    }

    long missing(int account) {
        Card c = card(account);
        if (now < 30) {
            return 0;
        }
        return Math.max(0, bill(account, now / 30 - 1).least - paidBetween(c, now / 30 * 30, now, 60));
    }

    int missed(int account) {
        return state(card(account)).count('m');
    }

    boolean isOff(int account) {
        return state(card(account)).off;
    }

    long points(int account) {
        long points = 0;
        for (Told e : card(account).events) {
            points += e.kind == 'b' && e.bucket == 'p' && !e.back ? e.cents / 100 : 0;
            points -= e.kind == 'd' ? e.cents : 0;
        }
        return points;
    }

    int events(int account) {
        return card(account).events.size();
    }

    char kindOf(int account, int event) {
        return event(card(account), event).kind;
    }

    boolean isBack(int account, int event) {
        return event(card(account), event).back;
    }

    int sum(int account, int event) {
        return event(card(account), event).cents;
    }

    char why(int account, char kind, int cents) {
        String against = wrongs(account, kind, cents);
        return against.isEmpty() ? '-' : against.charAt(0);
    }

    int reasons(int account, char kind, int cents) {
        return wrongs(account, kind, cents).length();
    }

    long collected() {
        return cards.stream().mapToLong(c -> paidBetween(c, 0, 360, 60)).sum();
    }

    int today() {
        return now;
    }

    long checksum() {
        long sum = 7;
        for (int i = 0; i < cards.size(); i++) {
            State s = state(cards.get(i));
            sum = ((sum * 31 + s.owed.get('p')) * 31 + s.owed.get('c')) * 31 + s.owed.get('t');
            sum = ((sum * 31 + s.credit) * 31 + points(i)) * 31 + s.count('m');
        }
        return sum * 31 + now;
    }

    float missedShare() {
        int missed = 0;
        int due = 0;
        for (Card c : cards) {
            State s = state(c);
            missed += s.count('m');
            due += s.bills.size() - s.count('w');
        }
        if (due == 0) {
            throw new ArithmeticException();
        }
        return (float) missed / due;
    }

    double meanOwed() {
        if (cards.isEmpty()) {
            throw new ArithmeticException();
        }
        return (double) cards.stream().mapToLong(c -> state(c).net()).sum() / cards.size();
    }

    boolean isSound() {
        return true;
    }

    // Looking up.

    private Card card(int account) {
        if (account < 0 || account >= cards.size()) {
            throw new IndexOutOfBoundsException();
        }
        return cards.get(account);
    }

    private static Told event(Card c, int event) {
        if (event < 0 || event >= c.events.size()) {
            throw new IndexOutOfBoundsException();
        }
        return c.events.get(event);
    }

    private Bill bill(int account, int cycle) {
        State s = state(card(account));
        if (cycle < 0 || cycle >= s.bills.size()) {
            throw new NoSuchElementException();
        }
        return s.bills.get(cycle);
    }

    private String wrongs(int account, char kind, int cents) {
        Card c = card(account);
        kind(kind);
        range(cents, 1, 999999);
        return against(c, kind, cents);
    }

    private String against(Card c, char kind, long cents) {
        State s = state(c);
        String against = (s.off ? "x" : "") + (c.blocked ? "b" : "");
        against += s.net() + cents > c.limit ? "l" : "";
        long rest = Math.max(0, cents - s.credit);
        return against + (kind == 'c' && s.owed.get('c') + rest > c.limit / 5 ? "c" : "");
    }

    private static Told add(Card c, char kind, char bucket, int cents, int day) {
        if (c.events.size() == 60) {
            throw new IllegalStateException();
        }
        Told e = new Told();
        e.kind = kind;
        e.bucket = bucket;
        e.cents = cents;
        e.day = day;
        e.number = c.events.size();
        c.events.add(e);
        return e;
    }

    private static boolean stillFrozen(Told e) {
        return e.disputed != null && e.settled == null;
    }

    private static void kind(char kind) {
        if (KINDS.indexOf(kind) < 0) {
            throw new IllegalArgumentException();
        }
    }

    private static void range(int n, int low, int high) {
        if (n < low || n > high) {
            throw new IllegalArgumentException();
        }
    }
}
