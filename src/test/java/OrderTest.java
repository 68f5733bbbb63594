import java.util.ArrayList;
import java.util.Arrays;
import java.util.List;

/**
 * "A call that throws an exception changes nothing. If several apply, the one that is named first in
 * the throws clause is thrown." Each call is asked with all that can be wrong with it at once.
 */
public final class OrderTest {
    private static final Check check = new Check("OrderTest");

    private static final int MIN = Integer.MIN_VALUE;
    private static final int MAX = Integer.MAX_VALUE;
    private static final int[] COMPANIES = {0, 1, 3, 5, -1, 6, MIN, MAX};
    private static final int[] RATES = {0, 7, 19, -1, 1, 6, 8, 18, 20, MIN, MAX};
    // The states below make two invoices at least, each with a line at least.
    private static final int[] INVOICES = {0, 1, -1, 20, MIN, MAX};
    private static final int[] LINES = {0, 1, 2, 3, -1, MIN, MAX};

    private static final Check.Steps SENT = x -> {
        x.send(0, 1, 2, 1000, 19);
        x.addLine(0, 500, 7);
        x.send(0, 1, 2, 1000, 19);
    };
    private static final Check.Steps ACCEPTED = SENT.then(x -> x.accept(0));
    private static final Check.Steps ACCEPTED_LONG_AGO = ACCEPTED.then(x -> x.pass(60));
    private static final Check.Steps REFUSED = SENT.then(x -> x.refuse(0));
    private static final Check.Steps EARLIER = SENT.then(x -> x.pass(1));
    private static final Check.Steps THREE_LINES = SENT.then(x -> x.addLine(0, 1, 0));
    private static final Check.Steps CREDITED = SENT.then(x -> x.credit(0, 0, 1));
    private static final Check.Steps DISPUTED = ACCEPTED.then(x -> x.dispute(0, 0));
    private static final Check.Steps ALL_DISPUTED = DISPUTED.then(x -> x.dispute(0, 1));
    private static final Check.Steps LINE_OF_0 = ACCEPTED.then(x -> x.credit(0, 0, 1000));
    private static final Check.Steps PAID = ACCEPTED.then(x -> x.payBySum(1, 0, 1725));
    private static final Check.Steps SOLD = ACCEPTED.then(x -> x.sell(0, 3, 50, true));
    private static final Check.Steps SOLD_WITHOUT = ACCEPTED.then(x -> x.sell(0, 3, 50, false));
    private static final Check.Steps SOLD_AND_PAID = SOLD.then(x -> x.payBySum(1, 3, 1725));
    private static final Check.Steps GIVEN_BACK = SOLD.then(x -> x.giveBack(0));
    private static final Check.Steps TWENTY = x -> {
        for (int i = 0; i < 20; i++) {
            x.send(i % 6, (i + 1) % 6, i % 8, 100 + i, 7);
        }
    };
    private static final Check.Steps LATE = ACCEPTED.then(x -> {
        for (int i = 0; i < 16; i++) {
            x.pass(60);
        }
        x.pass(20);
    });

    public static void main(String[] args) {
        orderOfSend();
        orderOfAddLine();
        orderOfAcceptAndRefuse();
        orderOfCredit();
        orderOfDispute();
        orderOfSettle();
        orderOfSell();
        orderOfGiveBack();
        orderOfType();
        orderOfPayByText();
        orderOfPayBySum();
        orderOfPass();
        orderOfAbout();
        orderOfLineOf();
        orderOfTax();
        check.end();
    }

    /** What is wrong with the call; of what is not, it is allowed, and is not asked here. */
    private interface Faults {
        Class<? extends RuntimeException> first(int[] of);
    }

    private interface CallOf {
        int on(Invoicebridge x, int[] of);
    }

    /** All mixtures of the values are asked, one behind the other of the same object. */
    private static void order(String name, Check.Steps ahead, Faults faults, CallOf call, int[]... values) {
        List<int[]> mixtures = new ArrayList<>();
        mixtures.add(new int[0]);
        for (int[] some : values) {
            List<int[]> longer = new ArrayList<>();
            for (int[] mixture : mixtures) {
                for (int value : some) {
                    int[] next = Arrays.copyOf(mixture, mixture.length + 1);
                    next[mixture.length] = value;
                    longer.add(next);
                }
            }
            mixtures = longer;
        }
        List<Check.Refusal> refusals = new ArrayList<>();
        for (int[] mixture : mixtures) {
            Class<? extends RuntimeException> first = faults.first(mixture);
            if (first != null) {
                refusals.add(new Check.Refusal(Arrays.toString(mixture), first, x -> call.on(x, mixture)));
            }
        }
        check.allRefused(name, ahead, refusals);
    }

    /** The first of those that apply; null if none does. */
    private static Class<? extends RuntimeException> first(boolean isIndex, boolean isArgument, boolean isState) {
        return isIndex ? Check.INDEX : isArgument ? Check.ARGUMENT : isState ? Check.STATE : null;
    }

    private static boolean isOut(int value, int least, int most) {
        return value < least || value > most;
    }

    private static boolean isNoRate(int rate) {
        return rate != 0 && rate != 7 && rate != 19;
    }

    private static void orderOfSend() {
        int[] companies = {0, 5, -1, 6, MAX};
        int[] goods = {0, 7, -1, 8};
        int[] amounts = {1, 9999, 0, 10000};
        int[] rates = {0, 7, 19, 1, -1, 20};
        for (boolean isFull : new boolean[] {false, true}) {
            order(isFull ? "send, 20" : "send", isFull ? TWENTY : SENT,
                of -> first(isOut(of[0], 0, 5) || isOut(of[1], 0, 5) || isOut(of[2], 0, 7),
                    isOut(of[3], 1, 9999) || isNoRate(of[4]) || of[0] == of[1], isFull),
                (x, of) -> x.send(of[0], of[1], of[2], of[3], of[4]), companies, companies, goods, amounts, rates);
        }
    }

    private static void orderOfAddLine() {
        Check.Steps[] states = {SENT, ACCEPTED, ACCEPTED_LONG_AGO, REFUSED, EARLIER, THREE_LINES, CREDITED,
            THREE_LINES.then(x -> x.credit(0, 0, 1)).then(x -> x.pass(1)).then(x -> x.accept(0))};
        int[] amounts = {1, 9999, 0, 10000, -1, MIN, MAX};
        for (int i = 0; i < states.length; i++) {
            boolean isRefused = i > 0;
            boolean isOtherToo = states[i] == EARLIER || states[i] == ACCEPTED_LONG_AGO || i == states.length - 1;
            order("addLine, state " + i, states[i],
                of -> first(isOut(of[0], 0, 1), isOut(of[1], 1, 9999) || isNoRate(of[2]), of[0] == 0 ? isRefused : isOtherToo),
                (x, of) -> x.addLine(of[0], of[1], of[2]), INVOICES, amounts, RATES);
        }
    }

    private static void orderOfAcceptAndRefuse() {
        for (Check.Steps state : new Check.Steps[] {SENT, ACCEPTED, ACCEPTED_LONG_AGO, REFUSED, DISPUTED, SOLD, PAID}) {
            boolean isRefused = state != SENT;
            Faults faults = of -> first(isOut(of[0], 0, 1), false, of[0] == 0 && isRefused);
            order("accept", state, faults, (x, of) -> x.accept(of[0]), INVOICES);
            order("refuse", state, faults, (x, of) -> x.refuse(of[0]), INVOICES);
        }
    }

    /** So many credits of 1 of the line 1 of the invoice 0. */
    private static Check.Steps credits(int count) {
        return x -> {
            for (int i = 0; i < count; i++) {
                x.credit(0, 1, 1);
            }
        };
    }

    private static void orderOfCredit() {
        Check.Steps[] states = {SENT, ACCEPTED, DISPUTED, PAID, REFUSED, SENT.then(credits(23)), SENT.then(credits(24)),
            DISPUTED.then(credits(24)), SENT.then(credits(24)).then(x -> x.refuse(0))};
        int[] left = {500, 500, 500, 500, 500, 477, 476, 476, 476};
        int[] amounts = {1, 476, 477, 478, 500, 501, 1000, 1001, 9999, 0, 10000, -1, MIN, MAX};
        for (int i = 0; i < states.length; i++) {
            int second = left[i];
            boolean isRefused = states[i] == REFUSED;
            boolean isFull = i >= 6;
            order("credit, state " + i, states[i],
                of -> first(isOut(of[0], 0, 1) || isOut(of[1], 0, of[0] == 0 ? 1 : 0),
                    isOut(of[2], 1, of[1] == 0 ? 1000 : second), isFull || of[0] == 0 && isRefused),
                (x, of) -> x.credit(of[0], of[1], of[2]), INVOICES, LINES, amounts);
        }
    }

    private static void orderOfDispute() {
        for (Check.Steps state : new Check.Steps[] {SENT, REFUSED, ACCEPTED, DISPUTED, ALL_DISPUTED, LINE_OF_0, PAID, SOLD}) {
            boolean isAccepted = state != SENT && state != REFUSED;
            boolean isFirst = state == DISPUTED || state == ALL_DISPUTED || state == LINE_OF_0;
            boolean isSecond = state == ALL_DISPUTED;
            order("dispute", state,
                of -> first(isOut(of[0], 0, 1) || isOut(of[1], 0, of[0] == 0 ? 1 : 0), false,
                    of[0] == 1 || !isAccepted || (of[1] == 0 ? isFirst : isSecond)),
                (x, of) -> x.dispute(of[0], of[1]), INVOICES, LINES);
        }
    }

    private static void orderOfSettle() {
        Check.Steps full = DISPUTED.then(credits(24));
        int[] isRight = {0, 1};
        for (Check.Steps state : new Check.Steps[] {SENT, REFUSED, ACCEPTED, DISPUTED, ALL_DISPUTED, full}) {
            boolean isFirst = state == DISPUTED || state == ALL_DISPUTED || state == full;
            boolean isSecond = state == ALL_DISPUTED;
            boolean isFull = state == full;
            order("settle", state,
                of -> first(isOut(of[0], 0, 1) || isOut(of[1], 0, of[0] == 0 ? 1 : 0), false,
                    of[0] == 1 || !(of[1] == 0 ? isFirst : isSecond) || isFull && of[2] == 1),
                (x, of) -> x.settle(of[0], of[1], of[2] == 1), INVOICES, LINES, isRight);
        }
    }

    private static void orderOfSell() {
        int[] parts = {1, 50, 100, 0, 101, -1, MIN, MAX};
        int[] recourse = {0, 1};
        Check.Steps[] states = {ACCEPTED, SENT, REFUSED, ALL_DISPUTED, PAID, SOLD, SOLD_WITHOUT, SOLD_AND_PAID, GIVEN_BACK};
        for (Check.Steps state : states) {
            boolean isRefused = state != ACCEPTED && state != GIVEN_BACK;
            order("sell", state,
                of -> first(isOut(of[0], 0, 1) || isOut(of[1], 0, 5), isOut(of[2], 1, 100) || of[1] == 0 || of[1] == 1,
                    of[0] == 1 || isRefused),
                (x, of) -> x.sell(of[0], of[1], of[2], of[3] == 1), INVOICES, COMPANIES, parts, recourse);
        }
    }

    private static void orderOfGiveBack() {
        Check.Steps disputed = SOLD.then(x -> x.dispute(0, 0)).then(x -> x.dispute(0, 1));
        Check.Steps[] states = {SOLD, SENT, REFUSED, ACCEPTED, SOLD_WITHOUT, SOLD_AND_PAID, GIVEN_BACK, disputed};
        for (Check.Steps state : states) {
            order("giveBack", state, of -> first(isOut(of[0], 0, 1), false, of[0] == 1 || state != SOLD),
                (x, of) -> x.giveBack(of[0]), INVOICES);
        }
    }

    private static void orderOfType() {
        int[] signs = {32, 'R', 126, 31, 127, 0, -1, MIN, MAX};
        for (int length : new int[] {0, 9, 10}) {
            order("type behind " + length, SENT.then(x -> Check.typeAll(x, "R123456789".substring(0, length))),
                of -> first(false, isOut(of[0], 32, 126), length == 10), (x, of) -> x.type(of[0]), signs);
        }
    }

    private static void orderOfPayByText() {
        int[] cents = {1, 1724, 1725, 1726, 99999, 0, 100000, -1, MIN, MAX};
        for (String text : new String[] {"R0", "R00", "", "R", "R000", "R1", "R2", "R20", "R99"}) {
            boolean isNamed = text.equals("R0") || text.equals("R00");
            for (Check.Steps state : new Check.Steps[] {ACCEPTED, SENT, REFUSED, PAID, SOLD, GIVEN_BACK}) {
                int holder = state == SOLD ? 3 : 0;
                boolean isOwed = state == ACCEPTED || state == SOLD || state == GIVEN_BACK;
                order("payByText '" + text + "'", state.then(x -> Check.typeAll(x, text)),
                    of -> first(isOut(of[0], 0, 5) || isOut(of[1], 0, 5), isOut(of[2], 1, 99999) || of[0] == of[1],
                        !isNamed || !isOwed || of[0] != 1 || of[1] != holder || of[2] > 1725),
                    (x, of) -> x.payByText(of[0], of[1], of[2]), COMPANIES, COMPANIES, cents);
            }
        }
    }

    private static void orderOfPayBySum() {
        int[] cents = {1, 1724, 1725, 1726, 99999, 0, 100000, -1, MIN, MAX};
        for (Check.Steps state : new Check.Steps[] {ACCEPTED, SENT, REFUSED, PAID, SOLD, SOLD_WITHOUT, GIVEN_BACK, ALL_DISPUTED}) {
            int holder = state == SOLD || state == SOLD_WITHOUT ? 3 : 0;
            boolean isOwed = state != SENT && state != REFUSED && state != PAID && state != ALL_DISPUTED;
            order("payBySum", state.then(x -> Check.typeAll(x, "R0")),
                of -> first(isOut(of[0], 0, 5) || isOut(of[1], 0, 5), isOut(of[2], 1, 99999) || of[0] == of[1],
                    !isOwed || of[0] != 1 || of[1] != holder || of[2] != 1725),
                (x, of) -> x.payBySum(of[0], of[1], of[2]), COMPANIES, COMPANIES, cents);
        }
    }

    private static void orderOfPass() {
        int[] days = {1, 18, 19, 20, 60, 0, 61, 1000, -1, MIN, MAX, MAX - 980, MAX - 979};
        order("pass", ACCEPTED, of -> first(false, isOut(of[0], 1, 60), false), (x, of) -> x.pass(of[0]), days);
        // The day is 980 then.
        order("pass, late", LATE, of -> first(false, isOut(of[0], 1, 60), of[0] > 19), (x, of) -> x.pass(of[0]), days);
    }

    private static void orderOfAbout() {
        int[] whats = {0, 9, 10, 11, -1, MIN, MAX};
        for (Check.Steps state : new Check.Steps[] {SENT, ACCEPTED, REFUSED, SOLD}) {
            order("about", state, of -> first(isOut(of[0], 0, 1), isOut(of[1], 0, 9), false),
                (x, of) -> x.about(of[0], of[1]), INVOICES, whats);
        }
    }

    private static void orderOfLineOf() {
        int[] whats = {0, 4, 5, 6, -1, MIN, MAX};
        for (Check.Steps state : new Check.Steps[] {SENT, ACCEPTED, REFUSED, ALL_DISPUTED}) {
            order("lineOf", state,
                of -> first(isOut(of[0], 0, 1) || isOut(of[1], 0, of[0] == 0 ? 1 : 0), isOut(of[2], 0, 4), false),
                (x, of) -> x.lineOf(of[0], of[1], of[2]), INVOICES, LINES, whats);
        }
    }

    private static void orderOfTax() {
        int[] months = {0, 1, 2, 3, 32, 33, -1, MIN, MAX};
        for (Check.Steps state : new Check.Steps[] {ACCEPTED, ACCEPTED_LONG_AGO, LATE}) {
            int now = Check.made(state).day() / 30;
            Faults faults = of -> first(isOut(of[0], 0, 5) || isOut(of[1], 0, now), false, false);
            order("tax", state, faults, (x, of) -> x.tax(of[0], of[1]), COMPANIES, months);
            order("carried", state, faults, (x, of) -> x.carried(of[0], of[1]), COMPANIES, months);
        }
    }
}
