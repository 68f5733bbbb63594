/** The boundary cases of the promises 1 to 8: on both sides of each bound; a method a sentence. */
public final class InvoicesEdgesTest {
    private static final Check check = new Check("InvoicesEdgesTest");

    private static final Check.Steps ONE_SENT = x -> {
        x.send(0, 1, 2, 1000, 19);
        x.addLine(0, 9999, 0);
    };
    private static final Check.Steps ONE_ACCEPTED = x -> {
        ONE_SENT.on(x);
        x.accept(0);
    };
    private static final Check.Steps ONE_REFUSED = x -> {
        ONE_SENT.on(x);
        x.refuse(0);
    };
    private static final int[] NO_INVOICES = {Integer.MIN_VALUE, -2, -1, 1, 2, 19, 20, 21, Integer.MAX_VALUE};
    private static final int[] NO_LINES = {Integer.MIN_VALUE, -1, 2, 3, Integer.MAX_VALUE};

    public static void main(String[] args) {
        promise1();
        promise2Companies();
        promise2Goods();
        promise2Amount();
        promise2Rate();
        promise2SameCompanies();
        promise2Twenty();
        promise3Invoice();
        promise3AmountAndRate();
        promise3State();
        promise4Invoice();
        promise4State();
        promise5Invoice();
        promise5State();
        promise6Line();
        promise6Amount();
        promise6State();
        promise6Credits();
        promise7Line();
        promise7State();
        promise7Amount0();
        promise8Line();
        promise8State();
        promise8Credits();
        check.end();
    }

    // "No invoices; all cash 0; the day 0."
    private static void promise1() {
        for (int number : new int[] {Integer.MIN_VALUE, -1, 0, 1, 19, 20, Integer.MAX_VALUE}) {
            check.due("a new object's invoice " + number, Check.INDEX, x -> x.about(number, 0), new Invoicebridge());
        }
        for (int company = 0; company < 6; company++) {
            check.due("its cash", new Invoicebridge().cash(company), 0);
            check.due("its cash anew", new Invoicebridge().cashAnew(company), 0);
        }
        check.due("its day", new Invoicebridge().day(), 0);
        check.due("its month", new Invoicebridge().pass(29), 0);
        check.due("its first invoice", new Invoicebridge().send(0, 1, 0, 1, 0), 0);
        Invoicebridge one = Check.made(ONE_ACCEPTED);
        one.payBySum(1, 0, 11189);
        one.pass(5);
        check.due("another object's cash", new Invoicebridge().cash(0), 0);
        check.due("another object's day", new Invoicebridge().day(), 0);
    }

    // "if there is no such company, of either"
    private static void promise2Companies() {
        for (int seller = 0; seller < 6; seller++) {
            for (int buyer = 0; buyer < 6; buyer++) {
                if (seller != buyer) {
                    Invoicebridge x = new Invoicebridge();
                    check.due("send " + seller + " " + buyer, x.send(seller, buyer, 0, 1, 0), 0);
                    check.due("its seller", x.about(0, 1), seller);
                    check.due("its buyer", x.about(0, 2), buyer);
                }
            }
        }
        for (int wild : new int[] {Integer.MIN_VALUE, -1, 6, 7, Integer.MAX_VALUE}) {
            check.refused("a seller " + wild, Check.INDEX, ONE_SENT, x -> x.send(wild, 5, 0, 1, 0));
            check.refused("a buyer " + wild, Check.INDEX, ONE_SENT, x -> x.send(5, wild, 0, 1, 0));
            check.refused("both " + wild, Check.INDEX, ONE_SENT, x -> x.send(wild, wild, 0, 1, 0));
        }
    }

    // "or goods"
    private static void promise2Goods() {
        check.due("goods 0", Check.made(ONE_SENT).send(0, 1, 0, 1, 0), 1);
        check.due("goods 7", Check.made(ONE_SENT).send(0, 1, 7, 1, 0), 1);
        for (int wild : new int[] {Integer.MIN_VALUE, -1, 8, 9, Integer.MAX_VALUE}) {
            check.refused("goods " + wild, Check.INDEX, ONE_SENT, x -> x.send(0, 1, wild, 1, 0));
        }
    }

    // "if amount ... is out of range": 1 to 9999
    private static void promise2Amount() {
        for (int amount : new int[] {1, 2, 9998, 9999}) {
            Invoicebridge x = new Invoicebridge();
            check.due("amount " + amount, x.send(0, 1, 0, amount, 0), 0);
            check.due("it is held", x.lineOf(0, 0, 0), amount);
        }
        for (int wild : new int[] {Integer.MIN_VALUE, -9999, -1, 0, 10000, 10001, Integer.MAX_VALUE}) {
            check.refused("amount " + wild, Check.ARGUMENT, ONE_SENT, x -> x.send(0, 1, 0, wild, 0));
        }
    }

    // "or rate is out of range": 0, 7 or 19
    private static void promise2Rate() {
        for (int rate = -20; rate <= 101; rate++) {
            int asked = rate;
            if (rate == 0 || rate == 7 || rate == 19) {
                Invoicebridge x = new Invoicebridge();
                check.due("rate " + rate, x.send(0, 1, 0, 100, rate), 0);
                check.due("its tax", x.lineOf(0, 0, 2), rate);
            } else {
                check.due("rate " + rate, Check.ARGUMENT, x -> x.send(0, 1, 0, 100, asked), new Invoicebridge());
            }
        }
        for (int wild : new int[] {Integer.MIN_VALUE, -7, -1, 1, 6, 8, 18, 20, Integer.MAX_VALUE}) {
            check.refused("rate " + wild, Check.ARGUMENT, ONE_SENT, x -> x.send(0, 1, 0, 100, wild));
        }
    }

    // "or both companies are the same"
    private static void promise2SameCompanies() {
        for (int company = 0; company < 6; company++) {
            int same = company;
            check.refused("from and to " + same, Check.ARGUMENT, ONE_SENT, x -> x.send(same, same, 0, 1, 0));
        }
    }

    // "if there are 20"
    private static void promise2Twenty() {
        Check.Steps nineteen = x -> {
            x.send(0, 1, 0, 100, 0);
            x.refuse(0);
            x.send(1, 0, 0, 100, 0);
            x.accept(1);
            x.payBySum(0, 1, 100);
            for (int i = 2; i < 19; i++) {
                x.send(2, 3, 7, 100, 19);
            }
            x.pass(60);
        };
        Check.Steps twenty = x -> {
            nineteen.on(x);
            x.send(4, 5, 0, 1, 7);
        };
        check.due("the 20th", Check.made(nineteen).send(4, 5, 0, 1, 7), 19);
        check.refused("the 21st", Check.STATE, twenty, x -> x.send(4, 5, 0, 1, 7));
        check.refused("the 21st, refused ones or paid ones make no room", Check.STATE, twenty, x -> x.send(0, 1, 0, 100, 0));
    }

    // "if there is no such invoice"
    private static void promise3Invoice() {
        for (int wild : NO_INVOICES) {
            check.refused("addLine " + wild, Check.INDEX, ONE_SENT, x -> x.addLine(wild, 1, 0));
        }
        Invoicebridge x = new Invoicebridge();
        check.due("addLine, none made", Check.INDEX, y -> y.addLine(0, 1, 0), x);
        for (int i = 0; i < 20; i++) {
            x.send(0, 1, 0, 1, 0);
        }
        check.due("addLine to the first", x.addLine(0, 1, 0), 1);
        check.due("addLine to the last", x.addLine(19, 1, 0), 1);
        check.due("addLine behind the last", Check.INDEX, y -> y.addLine(20, 1, 0), x);
    }

    // "if amount or rate is out of range"
    private static void promise3AmountAndRate() {
        for (int amount : new int[] {1, 9999}) {
            for (int rate : new int[] {0, 7, 19}) {
                Invoicebridge x = Check.made(ONE_SENT);
                check.due("addLine " + amount + " " + rate, x.addLine(0, amount, rate), 2);
                check.due("its amount", x.lineOf(0, 2, 0), amount);
                check.due("its rate", x.lineOf(0, 2, 1), rate);
            }
        }
        for (int wild : new int[] {Integer.MIN_VALUE, -1, 0, 10000, Integer.MAX_VALUE}) {
            check.refused("addLine amount " + wild, Check.ARGUMENT, ONE_SENT, x -> x.addLine(0, wild, 19));
        }
        for (int wild : new int[] {Integer.MIN_VALUE, -1, 1, 6, 8, 18, 20, Integer.MAX_VALUE}) {
            check.refused("addLine rate " + wild, Check.ARGUMENT, ONE_SENT, x -> x.addLine(0, 1, wild));
        }
    }

    // "if it is not SENT, was sent on an earlier day, has 3 lines, or a credit"
    private static void promise3State() {
        check.refused("addLine, accepted", Check.STATE, ONE_ACCEPTED, x -> x.addLine(0, 1, 0));
        check.refused("addLine, refused", Check.STATE, ONE_REFUSED, x -> x.addLine(0, 1, 0));
        Check.Steps earlier = x -> {
            ONE_SENT.on(x);
            x.pass(1);
        };
        check.refused("addLine a day later", Check.STATE, earlier, x -> x.addLine(0, 1, 0));
        Check.Steps full = x -> {
            ONE_SENT.on(x);
            x.addLine(0, 1, 0);
        };
        check.refused("addLine, the fourth", Check.STATE, full, x -> x.addLine(0, 1, 0));
        Check.Steps credited = x -> {
            ONE_SENT.on(x);
            x.credit(0, 1, 1);
        };
        check.refused("addLine behind a credit", Check.STATE, credited, x -> x.addLine(0, 1, 0));
        check.due("without all these", Check.made(ONE_SENT).addLine(0, 1, 0), 2);
    }

    // "if there is no such invoice"
    private static void promise4Invoice() {
        for (int wild : NO_INVOICES) {
            check.refused("accept " + wild, Check.INDEX, ONE_SENT, x -> x.accept(wild));
        }
        check.due("accept, none made", Check.INDEX, x -> x.accept(0), new Invoicebridge());
    }

    // "if it is not SENT"
    private static void promise4State() {
        check.due("accept, sent", Check.made(ONE_SENT).accept(0), 11189);
        check.refused("accept, accepted", Check.STATE, ONE_ACCEPTED, x -> x.accept(0));
        check.refused("accept, refused", Check.STATE, ONE_REFUSED, x -> x.accept(0));
        // Accepted again in a later month, its tax would be of that month.
        Check.Steps longAgo = x -> {
            ONE_ACCEPTED.on(x);
            x.pass(60);
        };
        check.refused("accept, accepted long ago", Check.STATE, longAgo, x -> x.accept(0));
        Invoicebridge late = Check.made(ONE_SENT);
        for (int i = 0; i < 16; i++) {
            late.pass(60);
        }
        late.pass(39);
        check.due("accept on the last day", late.accept(0), 11189);
        check.due("tax of the last month", late.carried(1, 33), -190);
        check.due("not of the one before", late.carried(1, 32), 0);
        Invoicebridge nothing = Check.made(ONE_SENT);
        nothing.credit(0, 0, 1000);
        nothing.credit(0, 1, 9999);
        check.due("accept of 0", nothing.accept(0), 0);
        check.due("it is accepted", nothing.about(0, 0), Invoicebridge.ACCEPTED);
    }

    // "if there is no such invoice"
    private static void promise5Invoice() {
        for (int wild : NO_INVOICES) {
            check.refused("refuse " + wild, Check.INDEX, ONE_SENT, x -> x.refuse(wild));
        }
        check.due("refuse, none made", Check.INDEX, x -> x.refuse(0), new Invoicebridge());
    }

    // "if it is not SENT"
    private static void promise5State() {
        check.due("refuse, sent", Check.made(ONE_SENT).refuse(0), 11189);
        check.refused("refuse, accepted", Check.STATE, ONE_ACCEPTED, x -> x.refuse(0));
        check.refused("refuse, refused", Check.STATE, ONE_REFUSED, x -> x.refuse(0));
        Invoicebridge nothing = Check.made(ONE_SENT);
        nothing.credit(0, 0, 1000);
        nothing.credit(0, 1, 9998);
        check.due("refuse of 1", nothing.refuse(0), 1);
        Invoicebridge later = Check.made(ONE_SENT);
        later.pass(60);
        check.due("refuse months later", later.refuse(0), 11189);
    }

    // "if there is no such invoice, or line of it"
    private static void promise6Line() {
        for (int wild : NO_INVOICES) {
            check.refused("credit of invoice " + wild, Check.INDEX, ONE_SENT, x -> x.credit(wild, 0, 1));
        }
        for (int wild : NO_LINES) {
            check.refused("credit of line " + wild, Check.INDEX, ONE_SENT, x -> x.credit(0, wild, 1));
        }
        check.due("credit, none made", Check.INDEX, x -> x.credit(0, 0, 1), new Invoicebridge());
        Invoicebridge one = new Invoicebridge();
        one.send(0, 1, 0, 10, 0);
        check.due("credit of line 1 of 1", Check.INDEX, x -> x.credit(0, 1, 1), one);
        Invoicebridge three = Check.made(ONE_SENT);
        three.addLine(0, 10, 0);
        check.due("credit of line 2 of 3", three.credit(0, 2, 1), 9);
        check.due("credit of line 3 of 3", Check.INDEX, x -> x.credit(0, 3, 1), three);
    }

    // "if amount is out of range, or above that of the line"
    private static void promise6Amount() {
        check.due("credit of 1", Check.made(ONE_SENT).credit(0, 0, 1), 999);
        check.due("credit of all but 1", Check.made(ONE_SENT).credit(0, 0, 999), 1);
        check.due("credit of all", Check.made(ONE_SENT).credit(0, 0, 1000), 0);
        check.due("credit of 9999", Check.made(ONE_SENT).credit(0, 1, 9999), 0);
        for (int wild : new int[] {Integer.MIN_VALUE, -1, 0, 1001, 9999, 10000, Integer.MAX_VALUE}) {
            check.refused("credit of " + wild, Check.ARGUMENT, ONE_SENT, x -> x.credit(0, 0, wild));
        }
        for (int wild : new int[] {Integer.MIN_VALUE, -1, 0, 10000, Integer.MAX_VALUE}) {
            check.refused("credit of " + wild + " of 9999", Check.ARGUMENT, ONE_SENT, x -> x.credit(0, 1, wild));
        }
        Check.Steps less = x -> {
            ONE_ACCEPTED.on(x);
            x.credit(0, 0, 400);
        };
        check.due("credit of all that is left", Check.made(less).credit(0, 0, 600), 0);
        check.refused("credit above what is left", Check.ARGUMENT, less, x -> x.credit(0, 0, 601));
        check.refused("credit of what it was", Check.ARGUMENT, less, x -> x.credit(0, 0, 1000));
        Check.Steps empty = x -> {
            less.on(x);
            x.credit(0, 0, 600);
        };
        check.refused("credit of a line of 0", Check.ARGUMENT, empty, x -> x.credit(0, 0, 1));
        check.refused("credit of 0 of a line of 0", Check.ARGUMENT, empty, x -> x.credit(0, 0, 0));
    }

    // "if it is REFUSED"
    private static void promise6State() {
        check.due("credit, sent", Check.made(ONE_SENT).credit(0, 0, 10), 990);
        check.due("credit, accepted", Check.made(ONE_ACCEPTED).credit(0, 0, 10), 990);
        check.refused("credit, refused", Check.STATE, ONE_REFUSED, x -> x.credit(0, 0, 10));
        Invoicebridge later = Check.made(ONE_SENT);
        later.pass(60);
        check.due("credit months later", later.credit(0, 0, 10), 990);
    }

    // "or there are 24 credits"
    private static void promise6Credits() {
        Check.Steps most = credits(23);
        check.due("the 24th", Check.made(most).credit(0, 1, 1), 9975);
        check.refused("the 25th", Check.STATE, credits(24), x -> x.credit(0, 1, 1));
        Check.Steps ofAnother = x -> {
            credits(24).on(x);
            x.send(0, 1, 0, 10, 0);
        };
        check.refused("the 25th of another invoice", Check.STATE, ofAnother, x -> x.credit(1, 0, 1));
        Check.Steps ofRefused = x -> {
            credits(24).on(x);
            x.refuse(0);
            x.send(0, 1, 0, 10, 0);
        };
        check.refused("the 25th, those of a refused one too", Check.STATE, ofRefused, x -> x.credit(1, 0, 1));
    }

    /** So many credits, all of them on the invoice 0, which is sent. */
    private static Check.Steps credits(int count) {
        return x -> {
            ONE_SENT.on(x);
            for (int i = 0; i < count; i++) {
                x.credit(0, 1, 1);
            }
        };
    }

    // "if there is no such invoice, or line of it"
    private static void promise7Line() {
        for (int wild : NO_INVOICES) {
            check.refused("dispute of invoice " + wild, Check.INDEX, ONE_ACCEPTED, x -> x.dispute(wild, 0));
        }
        for (int wild : NO_LINES) {
            check.refused("dispute of line " + wild, Check.INDEX, ONE_ACCEPTED, x -> x.dispute(0, wild));
        }
        check.due("dispute, none made", Check.INDEX, x -> x.dispute(0, 0), new Invoicebridge());
        Invoicebridge three = Check.made(ONE_SENT);
        three.addLine(0, 10, 0);
        three.accept(0);
        check.due("dispute of line 0 of 3", three.dispute(0, 0), 9999 + 10);
        check.due("dispute of line 2 of 3", three.dispute(0, 2), 9999);
        check.due("dispute of line 3 of 3", Check.INDEX, x -> x.dispute(0, 3), three);
    }

    // "if it is not ACCEPTED, the line is disputed"
    private static void promise7State() {
        check.refused("dispute, sent", Check.STATE, ONE_SENT, x -> x.dispute(0, 0));
        check.refused("dispute, refused", Check.STATE, ONE_REFUSED, x -> x.dispute(0, 0));
        Check.Steps disputed = x -> {
            ONE_ACCEPTED.on(x);
            x.dispute(0, 0);
        };
        check.refused("dispute, disputed", Check.STATE, disputed, x -> x.dispute(0, 0));
        check.due("dispute of the other line", Check.made(disputed).dispute(0, 1), 0);
        Invoicebridge again = Check.made(disputed);
        again.settle(0, 0, false);
        check.due("dispute again", again.dispute(0, 0), 9999);
        Invoicebridge paid = Check.made(ONE_ACCEPTED);
        paid.payBySum(1, 0, 11189);
        check.due("dispute, paid", paid.dispute(0, 0), 0);
        check.due("it is disputed", paid.lineOf(0, 0, 3), 1);
    }

    // "or its amount is 0"
    private static void promise7Amount0() {
        Check.Steps one = x -> {
            ONE_ACCEPTED.on(x);
            x.credit(0, 0, 999);
        };
        check.due("dispute of 1", Check.made(one).dispute(0, 0), 9999);
        Check.Steps zero = x -> {
            one.on(x);
            x.credit(0, 0, 1);
        };
        check.refused("dispute of 0", Check.STATE, zero, x -> x.dispute(0, 0));
        Check.Steps settled = x -> {
            ONE_ACCEPTED.on(x);
            x.dispute(0, 0);
            x.settle(0, 0, true);
        };
        check.refused("dispute of 0 by a dispute", Check.STATE, settled, x -> x.dispute(0, 0));
    }

    // "if there is no such invoice, or line of it"
    private static void promise8Line() {
        Check.Steps disputed = x -> {
            ONE_ACCEPTED.on(x);
            x.dispute(0, 0);
            x.dispute(0, 1);
        };
        for (boolean isRight : new boolean[] {false, true}) {
            for (int wild : NO_INVOICES) {
                check.refused("settle of invoice " + wild, Check.INDEX, disputed, x -> x.settle(wild, 0, isRight));
            }
            for (int wild : NO_LINES) {
                check.refused("settle of line " + wild, Check.INDEX, disputed, x -> x.settle(0, wild, isRight));
            }
            check.due("settle, none made", Check.INDEX, x -> x.settle(0, 0, isRight), new Invoicebridge());
            check.due("settle of the last line", Check.made(disputed).settle(0, 1, isRight), isRight ? 0 : 9999);
        }
    }

    // "if the line is not disputed"
    private static void promise8State() {
        Check.Steps settled = x -> {
            ONE_ACCEPTED.on(x);
            x.dispute(0, 1);
            x.dispute(0, 0);
            x.settle(0, 0, false);
        };
        for (boolean isRight : new boolean[] {false, true}) {
            check.refused("settle, sent", Check.STATE, ONE_SENT, x -> x.settle(0, 0, isRight));
            check.refused("settle, refused", Check.STATE, ONE_REFUSED, x -> x.settle(0, 0, isRight));
            check.refused("settle, not disputed", Check.STATE, ONE_ACCEPTED, x -> x.settle(0, 0, isRight));
            check.refused("settle, settled", Check.STATE, settled, x -> x.settle(0, 0, isRight));
            check.due("settle of the other line", Check.made(settled).settle(0, 1, isRight), isRight ? 1190 : 11189);
        }
    }

    // "or there are 24 credits and the buyer was right"
    private static void promise8Credits() {
        Check.Steps most = disputedWith(23);
        check.due("the 24th", Check.made(most).settle(0, 0, true), 9999 - 23);
        check.due("none with 23", Check.made(most).settle(0, 0, false), 1190 + 9999 - 23);
        Check.Steps all = disputedWith(24);
        check.refused("the 25th", Check.STATE, all, x -> x.settle(0, 0, true));
        Invoicebridge x = Check.made(all);
        check.due("none with 24", x.settle(0, 0, false), 1190 + 9999 - 24);
        check.due("it is settled", x.lineOf(0, 0, 3), 0);
        Check.Steps zero = y -> {
            ONE_ACCEPTED.on(y);
            y.dispute(0, 0);
            y.credit(0, 0, 1000);
            for (int i = 1; i < 24; i++) {
                y.credit(0, 1, 1);
            }
        };
        check.refused("the 25th of 0", Check.STATE, zero, y -> y.settle(0, 0, true));
        check.due("of 0, the seller was right", Check.made(zero).settle(0, 0, false), 9999 - 23);
        check.due("a 24th by a dispute", Check.STATE, y -> y.credit(0, 1, 1), settledWith(23));
        check.due("a 23rd by a dispute", settledWith(22).credit(0, 1, 1), 9999 - 23);
    }

    private static Check.Steps disputedWith(int credits) {
        return x -> {
            credits(credits).on(x);
            x.accept(0);
            x.dispute(0, 0);
        };
    }

    private static Invoicebridge settledWith(int credits) {
        Invoicebridge x = Check.made(disputedWith(credits));
        x.settle(0, 0, true);
        return x;
    }
}
