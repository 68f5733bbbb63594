import java.util.ArrayList;
import java.util.List;

/** Nothing made yet, everything full, and calls with any arguments in any state, also behind the 512th. */
public final class FullTest {
    private static final Check check = new Check("FullTest");

    private static final int[] ANY = {Integer.MIN_VALUE, Integer.MIN_VALUE + 1, -65536, -2, -1, 0, 1, 2, 5, 6, 7, 8, 10, 19, 20,
        24, 30, 33, 34, 60, 61, 82, 99, 100, 999, 9999, 10000, 65536 + 82, 99999, 100000, Integer.MAX_VALUE - 1, Integer.MAX_VALUE};

    /** 20 invoices with 3 lines of the greatest amounts, 24 credits, 10 signs, the day 999. */
    private static final Check.Steps FULL = x -> {
        for (int i = 0; i < 20; i++) {
            x.send(0, 1, 7, 9999, 19);
            x.addLine(i, 9999, 19);
            x.addLine(i, 9999, 19);
            x.accept(i);
        }
        for (int i = 0; i < 17; i++) {
            x.pass(i < 16 ? 60 : 39);
        }
        for (int i = 0; i < 24; i++) {
            x.credit(0, 0, 1);
        }
        Check.typeAll(x, "R0        ");
    };

    public static void main(String[] args) {
        nothingMade();
        everythingFull();
        fullThrows();
        fullOnTheFirstDay();
        anyArgumentsInAnyState();
        behindThe512thCall();
        sameCallsSameAnswers();
        check.end();
    }

    private static void nothingMade() {
        Check.Steps nothing = x -> { };
        for (int i : new int[] {-1, 0, 1, 19, 20}) {
            check.refused("addLine", Check.INDEX, nothing, x -> x.addLine(i, 1, 0));
            check.refused("accept", Check.INDEX, nothing, x -> x.accept(i));
            check.refused("refuse", Check.INDEX, nothing, x -> x.refuse(i));
            check.refused("credit", Check.INDEX, nothing, x -> x.credit(i, 0, 1));
            check.refused("dispute", Check.INDEX, nothing, x -> x.dispute(i, 0));
            check.refused("settle", Check.INDEX, nothing, x -> x.settle(i, 0, true));
            check.refused("sell", Check.INDEX, nothing, x -> x.sell(i, 3, 50, true));
            check.refused("giveBack", Check.INDEX, nothing, x -> x.giveBack(i));
            check.refused("about", Check.INDEX, nothing, x -> x.about(i, 0));
            check.refused("lineOf", Check.INDEX, nothing, x -> x.lineOf(i, 0, 0));
        }
        check.refused("payByText", Check.STATE, nothing, x -> x.payByText(0, 1, 1));
        check.refused("payBySum", Check.STATE, nothing, x -> x.payBySum(0, 1, 1));
        check.due("clear", new Invoicebridge().clear(), 0);
        check.due("fault", new Invoicebridge().fault(), 0);
        check.due("day", new Invoicebridge().day(), 0);
        for (int company = 0; company < 6; company++) {
            Invoicebridge x = new Invoicebridge();
            check.due("all of a company", Math.abs(x.cash(company)) + Math.abs(x.cashAnew(company)) + x.owedTo(company)
                + x.owes(company) + x.tax(company, 0) - x.carried(company, 0), 0);
        }
        for (int goods = 0; goods < 8; goods++) {
            check.due("chain", new Invoicebridge().chain(goods), 0);
        }
    }

    private static void everythingFull() {
        Invoicebridge x = Check.made(FULL);
        check.due("the credited amount", x.lineOf(0, 0, 0), 9975);
        check.due("its tax", x.lineOf(0, 0, 2), 1895);
        check.due("owes", x.owes(1), 713880 - 28);
        check.due("owedTo", x.owedTo(0), 713880 - 28);
        check.due("tax", x.tax(0, 0), 20 * 5697);
        check.due("the seller's credits", x.carried(0, 33), -4);
        check.due("carried", x.carried(1, 32), -20 * 5697);
        check.due("the buyer's credits", x.carried(1, 33), -20 * 5697 + 4);
        check.due("chain", x.chain(7), 20 * 5697 - 4);
        check.due("day", x.day(), 999);
        check.due("fault", x.fault(), 2);
        check.due("the lowest of the same sum", x.payBySum(1, 0, 35694), 1);
        check.due("the last of them", x.sell(19, 5, 100, true), 35694);
        check.due("given back", x.giveBack(19), 35694);
        check.due("clear", x.clear(), 10);
    }

    private static void fullThrows() {
        check.refused("send", Check.STATE, FULL, x -> x.send(0, 1, 7, 1, 0));
        check.refused("addLine", Check.STATE, FULL, x -> x.addLine(19, 1, 0));
        check.refused("credit", Check.STATE, FULL, x -> x.credit(19, 2, 1));
        check.refused("type", Check.STATE, FULL, x -> x.type('R'));
        check.refused("payByText", Check.STATE, FULL, x -> x.payByText(1, 0, 1));
        check.refused("pass", Check.STATE, FULL, x -> x.pass(1));
        check.refused("accept", Check.STATE, FULL, x -> x.accept(19));
        check.refused("refuse", Check.STATE, FULL, x -> x.refuse(19));
        check.refused("accept 20", Check.INDEX, FULL, x -> x.accept(20));
        check.refused("lineOf 3", Check.INDEX, FULL, x -> x.lineOf(19, 3, 0));
        check.refused("tax for 34", Check.INDEX, FULL, x -> x.tax(0, 34));
        Check.Steps disputed = FULL.then(x -> x.dispute(19, 2));
        check.refused("settle", Check.STATE, disputed, x -> x.settle(19, 2, true));
        check.due("settle, the seller was right", Check.made(disputed).settle(19, 2, false), 35694);
    }

    private static void fullOnTheFirstDay() {
        Check.Steps sent = x -> {
            for (int i = 0; i < 20; i++) {
                x.send(5, 4, 0, 1, 19);
                x.addLine(i, 1, 0);
            }
            for (int i = 0; i < 10; i++) {
                x.type('R');
            }
        };
        check.refused("send, the 21st", Check.STATE, sent, x -> x.send(5, 4, 0, 1, 19));
        check.refused("type, the 11th", Check.STATE, sent, x -> x.type('0'));
        check.due("a third line of the last", Check.made(sent).addLine(19, 9999, 19), 2);
        check.due("accept the last", Check.made(sent).accept(19), 2);
        check.due("refuse the last", Check.made(sent).refuse(19), 2);
        check.due("a credit of a whole line of the last", Check.made(sent).credit(19, 1, 1), 0);
    }

    /** All calls with some of the arguments; those that are allowed change the object as they go. */
    private static List<Check.Call> calls(int a, int b, int c) {
        List<Check.Call> calls = new ArrayList<>();
        calls.add(x -> x.send(a, b, c, 100, 19));
        calls.add(x -> x.send(0, 1, a, b, c));
        calls.add(x -> x.addLine(a, b, c));
        calls.add(x -> x.accept(a));
        calls.add(x -> x.refuse(a));
        calls.add(x -> x.credit(a, b, c));
        calls.add(x -> x.dispute(a, b));
        calls.add(x -> x.settle(a, b, c > 0));
        calls.add(x -> x.sell(a, b, c, true));
        calls.add(x -> x.sell(a, b, c, false));
        calls.add(x -> x.giveBack(a));
        calls.add(x -> x.type(a));
        calls.add(x -> x.payByText(a, b, c));
        calls.add(x -> x.payBySum(a, b, c));
        calls.add(x -> x.pass(a));
        calls.add(x -> x.about(a, b));
        calls.add(x -> x.lineOf(a, b, c));
        calls.add(x -> x.cash(a));
        calls.add(x -> x.cashAnew(a));
        calls.add(x -> x.owedTo(a));
        calls.add(x -> x.owes(a));
        calls.add(x -> x.tax(a, b));
        calls.add(x -> x.carried(a, b));
        calls.add(x -> x.chain(a));
        calls.add(Invoicebridge::fault);
        calls.add(Invoicebridge::day);
        calls.add(Invoicebridge::clear);
        return calls;
    }

    // What the machine or the library throws is not an answer of the document.
    private static void dueByTheProject(String what, String answer) {
        check.due(what + " " + answer + " is thrown by the project", answer.endsWith("library") ? 1 : 0, 0);
    }

    private static void anyArgumentsInAnyState() {
        Check.Steps some = x -> {
            x.send(0, 1, 2, 1000, 19);
            x.send(2, 3, 2, 1000, 19);
            x.accept(0);
            x.sell(0, 2, 50, true);
            x.dispute(0, 0);
            Check.typeAll(x, "R1");
        };
        for (Check.Steps ahead : new Check.Steps[] {x -> { }, some, FULL}) {
            for (int a : ANY) {
                for (int b : ANY) {
                    Invoicebridge x = Check.made(ahead);
                    for (int c : new int[] {Integer.MIN_VALUE, -1, 0, 1, 7, 100, Integer.MAX_VALUE}) {
                        for (Check.Call call : calls(a, b, c)) {
                            dueByTheProject("a call with " + a + " " + b + " " + c, Check.answer(call, x));
                        }
                    }
                }
            }
        }
    }

    /** Free answers, but never of the machine, and no call that does not end. */
    private static void behindThe512thCall() {
        Invoicebridge x = new Invoicebridge();
        x.send(0, 1, 0, 9999, 19);
        x.accept(0);
        for (int call = 0; call < 20000; call++) {
            dueByTheProject("sell", Check.answer(y -> y.sell(0, 2, 100, true), x));
            dueByTheProject("giveBack", Check.answer(y -> y.giveBack(0), x));
            dueByTheProject("payBySum", Check.answer(y -> y.payBySum(1, 0, 11898), x));
            dueByTheProject("cashAnew", Check.answer(y -> y.cashAnew(0), x));
            dueByTheProject("type", Check.answer(y -> y.type('R'), x));
        }
        for (int a : ANY) {
            for (Check.Call call : calls(a, 1, 1)) {
                dueByTheProject("a call with " + a, Check.answer(call, x));
            }
        }
    }

    private static void sameCallsSameAnswers() {
        Invoicebridge one = Check.made(FULL);
        Invoicebridge other = Check.made(FULL);
        for (int a = -1; a < 7; a++) {
            for (Check.Call call : calls(a, 1, 50)) {
                check.due("the same call", Check.answer(call, one), Check.answer(call, other));
            }
        }
    }
}
