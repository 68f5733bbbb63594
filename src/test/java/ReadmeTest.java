/** The examples of README.md, call by call, with the answers that it tells. */
public final class ReadmeTest {
    private static final Check check = new Check("ReadmeTest");

    public static void main(String[] args) {
        Invoicebridge x = new Invoicebridge();
        anInvoice(x);
        aSaleAndAPayment(x);
        aTextAndACredit(x);
        refusals(x);
        check.end();
    }

    private static void anInvoice(Invoicebridge x) {
        check.due("send", x.send(0, 1, 2, 1000, 19), 0);
        check.due("addLine", x.addLine(0, 500, 7), 1);
        check.due("accept", x.accept(0), 1725);
        check.due("dispute", x.dispute(0, 1), 1190);
    }

    private static void aSaleAndAPayment(Invoicebridge x) {
        check.due("sell", x.sell(0, 3, 90, true), 1071);
        check.due("payBySum", x.payBySum(1, 3, 1190), 0);
        check.due("cash", x.cash(3), 119);
        check.due("settle", x.settle(0, 1, false), 535);
    }

    private static void aTextAndACredit(Invoicebridge x) {
        check.due("fault, empty", x.fault(), 0);
        check.due("type R", x.type('R'), 1);
        check.due("type 0", x.type('0'), 2);
        check.due("fault", x.fault(), Invoicebridge.NONE);
        check.due("payByText", x.payByText(1, 3, 35), 0);
        check.due("pass", x.pass(30), 1);
        check.due("credit", x.credit(0, 1, 500), 0);
        check.due("tax", x.tax(0, 0), 225);
        check.due("carried, seller", x.carried(0, 1), -35);
        check.due("carried, buyer", x.carried(1, 1), -190);
    }

    private static void refusals(Invoicebridge x) {
        check.due("accept 7", Check.INDEX, y -> y.accept(7), x);
        check.due("send with the rate 8", Check.ARGUMENT, y -> y.send(0, 1, 2, 1000, 8), x);
        check.due("accept twice", Check.STATE, y -> y.accept(0), x);
    }
}
