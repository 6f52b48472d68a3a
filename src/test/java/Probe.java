import java.util.ArrayList;
import java.util.List;

/**
 * All that a house answers, and what it answers behind some days more, as one text: two houses of which nothing
 * different was asked tell the same. It takes some 400 calls, so that a house of a hundred calls stays below 512.
 */
final class Probe {
    private final StatementCycle x;
    private final StringBuilder text = new StringBuilder();
    private int calls;

    private Probe(StatementCycle x) {
        this.x = x;
    }

    static String of(StatementCycle x) {
        Probe probe = new Probe(x);
        probe.house();
        int accounts = probe.countAccounts();
        for (int a = 0; a < accounts; a++) {
            probe.account(a);
        }
        probe.settings(accounts);
        for (int a = 0; a < accounts; a++) {
            probe.later(a);
        }
        if (probe.calls > 420) {
            throw new IllegalStateException("a probe of " + probe.calls + " calls");
        }
        return probe.text.toString();
    }

    private Object ask(String what, Checks.Call call) {
        calls++;
        Object answer = Checks.answer(call);
        text.append(what).append('=').append(answer).append(' ');
        return answer;
    }

    private int countAccounts() {
        int count = 0;
        while (count < 4 && !(Checks.answer(askEvents(count)) instanceof String)) {
            count++;
        }
        calls += count + 1;
        return count;
    }

    private Checks.Call askEvents(int account) {
        return () -> x.events(account);
    }

    private void house() {
        ask("today", () -> x.today());
        ask("collected", () -> x.collected());
        ask("checksum", () -> x.checksum());
        ask("missedShare", () -> x.missedShare());
        ask("meanOwed", () -> x.meanOwed());
        ask("isSound", () -> x.isSound());
    }

    private void account(int a) {
        text.append("\naccount ").append(a).append(' ');
        ask("owed", () -> x.owed(a));
        for (char kind : "pct".toCharArray()) {
            ask("bucket", () -> x.bucket(a, kind));
        }
        ask("credit", () -> x.credit(a));
        ask("missing", () -> x.missing(a));
        ask("missed", () -> x.missed(a));
        ask("isOff", () -> x.isOff(a));
        ask("points", () -> x.points(a));
        Object events = ask("events", () -> x.events(a));
        for (int e : ends((Integer) events, 13, 2)) {
            ask("kindOf " + e, () -> x.kindOf(a, e));
            ask("isBack " + e, () -> x.isBack(a, e));
            ask("sum " + e, () -> x.sum(a, e));
        }
        for (int c : ends(x.today() / 30, 1, 2)) {
            cycle(a, c);
        }
    }

    private void cycle(int a, int c) {
        ask("statement " + c, () -> x.statement(a, c));
        ask("told", () -> x.told(a, c));
        ask("least", () -> x.least(a, c));
        ask("interest", () -> x.interest(a, c));
        ask("hadGrace", () -> x.hadGrace(a, c));
        ask("paid", () -> x.paid(a, c));
    }

    /** What no question tells is told by the calls that change it. */
    private void settings(int accounts) {
        text.append("\nsettings ");
        for (int a = 0; a < accounts; a++) {
            int account = a;
            ask("block", () -> x.block(account, false));
            ask("setLimit", () -> x.setLimit(account, 9999999));
        }
        for (int c = 0; c < 4; c++) {
            int currency = c;
            ask("setCurrency", () -> x.setCurrency(currency, 1000));
        }
    }

    private void later(int a) {
        text.append("\nlater ");
        ask("buy", () -> x.buy(a, 't', 100000));
        ask("pass", () -> x.pass(15));
        for (int e = 0; e < 13; e++) {
            int event = e;
            ask("settle", () -> x.settle(a, event, false));
        }
        ask("pass", () -> x.pass(20));
        ask("owed", () -> x.owed(a));
        int last = x.today() / 30 - 1;
        ask("interest", () -> x.interest(a, last));
        ask("least", () -> x.least(a, last));
        // A plan comes last, as nothing accrues with one.
        ask("plan", () -> x.plan(a));
    }

    /** The numbers below a count, of them only so many at the beginning and at the end. */
    private static List<Integer> ends(int count, int first, int last) {
        List<Integer> numbers = new ArrayList<>();
        for (int i = 0; i < count; i++) {
            if (i < first || i >= count - last) {
                numbers.add(i);
            }
        }
        return numbers;
    }
}
