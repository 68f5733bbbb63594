/** Promises 1 to 8: a new object; invoices are sent, accepted, refused, credited and disputed. */
public final class InvoicesTest {
    private static final Check check = new Check("InvoicesTest");

    private static final Check.Steps NOTHING = x -> { };
    private static final Check.Steps ONE_SENT = x -> x.send(0, 1, 2, 1000, 19);
    private static final Check.Steps ONE_ACCEPTED = x -> {
        x.send(0, 1, 2, 1000, 19);
        x.addLine(0, 500, 7);
        x.accept(0);
    };
    private static final Check.Steps ONE_REFUSED = x -> {
        x.send(0, 1, 2, 1000, 19);
        x.refuse(0);
    };
    private static final Check.Steps TWENTY_SENT = x -> {
        for (int i = 0; i < 20; i++) {
            x.send(i % 6, (i + 1) % 6, i % 8, 100 + i, 7);
        }
    };
    private static final Check.Steps ALL_CREDITS = x -> {
        x.send(0, 1, 2, 1000, 19);
        x.accept(0);
        x.dispute(0, 0);
        for (int i = 0; i < 24; i++) {
            x.credit(0, 0, 2);
        }
    };

    public static void main(String[] args) {
        promise1NewObject();
        promise2Send();
        promise2SendRefused();
        promise3AddLine();
        promise3AddLineRefused();
        promise4Accept();
        promise5Refuse();
        promise6Credit();
        promise6CreditRefused();
        promise7Dispute();
        promise8Settle();
        promise8SettleAndCredits();
        check.end();
    }

    private static void promise1NewObject() {
        Invoicebridge x = new Invoicebridge();
        check.due("a new day", x.day(), 0);
        check.due("a new draft's fault", x.fault(), 0);
        check.due("a new draft's length", x.clear(), 0);
        check.due("a new about", Check.answer(y -> y.about(0, 0), x), "throws.IndexOutOfBoundsException");
        for (int c = 0; c < 6; c++) {
            check.due("new cash", x.cash(c), 0);
            check.due("new cashAnew", x.cashAnew(c), 0);
            check.due("new owedTo", x.owedTo(c), 0);
            check.due("new owes", x.owes(c), 0);
            check.due("new tax", x.tax(c, 0), 0);
            check.due("new carried", x.carried(c, 0), 0);
        }
        for (int g = 0; g < 8; g++) {
            check.due("new chain", x.chain(g), 0);
        }
        x.send(0, 1, 0, 5, 0);
        check.due("objects are apart", Check.answer(y -> y.about(0, 0), new Invoicebridge()), "throws.IndexOutOfBoundsException");
    }

    private static void promise2Send() {
        Invoicebridge x = new Invoicebridge();
        x.pass(3);
        check.due("send, the first", x.send(0, 5, 7, 9999, 19), 0);
        check.due("send, the second", x.send(5, 0, 0, 1, 7), 1);
        check.due("send, at the rate 0", x.send(2, 3, 4, 50, 0), 2);
        check.due("its state", x.about(0, 0), Invoicebridge.SENT);
        check.due("its seller", x.about(0, 1), 0);
        check.due("its buyer", x.about(0, 2), 5);
        check.due("its holder", x.about(0, 3), 0);
        check.due("its cost, the tax rounded down", x.about(0, 4), 9999 + 1899);
        check.due("what is owed", x.about(0, 5), 0);
        check.due("what was paid", x.about(0, 6), 0);
        check.due("its lines", x.about(0, 7), 1);
        check.due("its day", x.about(0, 8), 3);
        check.due("a small tax", x.about(1, 9), 0);
        check.due("at the rate 0", x.about(2, 4), 50);
        check.due("the last of 20", Check.made(TWENTY_SENT).about(19, 4), 119 + 8);
    }

    private static void promise2SendRefused() {
        for (int wild : new int[] {Integer.MIN_VALUE, -1, 6, Integer.MAX_VALUE}) {
            check.refused("send from " + wild, Check.INDEX, ONE_SENT, x -> x.send(wild, 1, 2, 10, 7));
            check.refused("send to " + wild, Check.INDEX, ONE_SENT, x -> x.send(1, wild, 2, 10, 7));
        }
        for (int wild : new int[] {Integer.MIN_VALUE, -1, 8, Integer.MAX_VALUE}) {
            check.refused("send goods " + wild, Check.INDEX, ONE_SENT, x -> x.send(1, 2, wild, 10, 7));
        }
        for (int wild : new int[] {Integer.MIN_VALUE, -1, 0, 10000, Integer.MAX_VALUE}) {
            check.refused("send amount " + wild, Check.ARGUMENT, ONE_SENT, x -> x.send(1, 2, 2, wild, 7));
        }
        for (int wild : new int[] {Integer.MIN_VALUE, -1, 1, 6, 8, 18, 20, 100, Integer.MAX_VALUE}) {
            check.refused("send rate " + wild, Check.ARGUMENT, ONE_SENT, x -> x.send(1, 2, 2, 10, wild));
        }
        check.refused("send to oneself", Check.ARGUMENT, NOTHING, x -> x.send(3, 3, 2, 10, 7));
        check.refused("send 21", Check.STATE, TWENTY_SENT, x -> x.send(1, 2, 2, 10, 7));
        check.refused("send, amount before 20", Check.ARGUMENT, TWENTY_SENT, x -> x.send(1, 2, 2, 0, 7));
        check.refused("send, same before 20", Check.ARGUMENT, TWENTY_SENT, x -> x.send(2, 2, 2, 1, 7));
        check.refused("send, goods before amount", Check.INDEX, TWENTY_SENT, x -> x.send(1, 1, 8, 0, 8));
        check.refused("send, companies before same", Check.INDEX, TWENTY_SENT, x -> x.send(6, 6, 0, 1, 7));
    }

    private static void promise3AddLine() {
        Invoicebridge x = Check.made(ONE_SENT);
        check.due("addLine, the second", x.addLine(0, 9999, 7), 1);
        check.due("addLine, the third", x.addLine(0, 1, 19), 2);
        check.due("lines", x.about(0, 7), 3);
        check.due("cost", x.about(0, 4), 1190 + 9999 + 699 + 1);
        check.due("the third's rate", x.lineOf(0, 2, 1), 19);
        x.send(3, 4, 0, 10, 0);
        check.due("addLine to another", x.addLine(1, 20, 0), 1);
    }

    private static void promise3AddLineRefused() {
        Check.Steps full = x -> {
            ONE_SENT.on(x);
            x.addLine(0, 1, 0);
            x.addLine(0, 2, 0);
        };
        Check.Steps credited = x -> {
            ONE_SENT.on(x);
            x.credit(0, 0, 1);
        };
        Check.Steps earlier = x -> {
            ONE_SENT.on(x);
            x.pass(1);
        };
        for (int wild : new int[] {Integer.MIN_VALUE, -1, 1, 20, Integer.MAX_VALUE}) {
            check.refused("addLine to " + wild, Check.INDEX, ONE_SENT, x -> x.addLine(wild, 10, 7));
            check.refused("addLine to " + wild + " first", Check.INDEX, ONE_SENT, x -> x.addLine(wild, 0, 8));
        }
        for (int wild : new int[] {Integer.MIN_VALUE, -1, 0, 10000, Integer.MAX_VALUE}) {
            check.refused("addLine amount " + wild, Check.ARGUMENT, ONE_SENT, x -> x.addLine(0, wild, 7));
            check.refused("addLine amount first " + wild, Check.ARGUMENT, full, x -> x.addLine(0, wild, 7));
        }
        for (int wild : new int[] {Integer.MIN_VALUE, -7, 1, 8, 20, Integer.MAX_VALUE}) {
            check.refused("addLine rate " + wild, Check.ARGUMENT, ONE_SENT, x -> x.addLine(0, 10, wild));
            check.refused("addLine rate first " + wild, Check.ARGUMENT, ONE_REFUSED, x -> x.addLine(0, 10, wild));
        }
        check.refused("addLine, a fourth", Check.STATE, full, x -> x.addLine(0, 10, 7));
        check.refused("addLine behind a credit", Check.STATE, credited, x -> x.addLine(0, 10, 7));
        check.refused("addLine a day later", Check.STATE, earlier, x -> x.addLine(0, 10, 7));
        check.refused("addLine to an accepted one", Check.STATE, ONE_ACCEPTED, x -> x.addLine(0, 10, 7));
        check.refused("addLine to a refused one", Check.STATE, ONE_REFUSED, x -> x.addLine(0, 10, 7));
        Invoicebridge other = Check.made(credited);
        other.send(0, 1, 2, 1000, 19);
        check.due("a credit of another invoice is no matter", other.addLine(1, 10, 7), 1);
    }

    private static void promise4Accept() {
        Invoicebridge x = Check.made(ONE_SENT);
        x.addLine(0, 500, 7);
        x.credit(0, 0, 100);
        x.pass(40);
        check.due("accept", x.accept(0), 900 + 171 + 535);
        check.due("accepted", x.about(0, 0), Invoicebridge.ACCEPTED);
        check.due("owed", x.about(0, 5), 1606);
        check.due("the day on which it was sent stays", x.about(0, 8), 0);
        Invoicebridge none = Check.made(ONE_SENT);
        none.credit(0, 0, 1000);
        check.due("accept of nothing", none.accept(0), 0);
        for (int wild : new int[] {Integer.MIN_VALUE, -1, 1, 20, Integer.MAX_VALUE}) {
            check.refused("accept " + wild, Check.INDEX, ONE_SENT, y -> y.accept(wild));
        }
        check.refused("accept twice", Check.STATE, ONE_ACCEPTED, y -> y.accept(0));
        check.refused("accept a refused one", Check.STATE, ONE_REFUSED, y -> y.accept(0));
    }

    private static void promise5Refuse() {
        Invoicebridge x = Check.made(ONE_SENT);
        x.credit(0, 0, 100);
        check.due("refuse", x.refuse(0), 900 + 171);
        check.due("refused", x.about(0, 0), Invoicebridge.REFUSED);
        check.due("owed", x.about(0, 5), 0);
        check.due("it costs still", x.about(0, 4), 1071);
        for (int wild : new int[] {Integer.MIN_VALUE, -1, 1, 20, Integer.MAX_VALUE}) {
            check.refused("refuse " + wild, Check.INDEX, ONE_SENT, y -> y.refuse(wild));
        }
        check.refused("refuse twice", Check.STATE, ONE_REFUSED, y -> y.refuse(0));
        check.refused("refuse an accepted one", Check.STATE, ONE_ACCEPTED, y -> y.refuse(0));
    }

    private static void promise6Credit() {
        Invoicebridge x = Check.made(ONE_ACCEPTED);
        check.due("credit", x.credit(0, 0, 1), 999);
        check.due("its tax", x.lineOf(0, 0, 2), 189);
        check.due("owed", x.about(0, 5), 999 + 189 + 535);
        check.due("credit of all", x.credit(0, 1, 500), 0);
        check.due("as it was made", x.lineOf(0, 1, 4), 500);
        check.due("the other line is as it was", x.lineOf(0, 0, 0), 999);
        x.dispute(0, 0);
        check.due("credit of a disputed line", x.credit(0, 0, 99), 900);
        check.due("it stays disputed", x.lineOf(0, 0, 3), 1);
        check.due("nothing is owed of it", x.about(0, 5), 0);
        x.credit(0, 0, 900);
        check.due("disputed with 0", x.lineOf(0, 0, 3), 1);
        Invoicebridge paid = Check.made(ONE_ACCEPTED);
        paid.payBySum(1, 0, 1190 + 535);
        check.due("credit of a paid one", paid.credit(0, 0, 500), 500);
        check.due("owed, at least 0", paid.about(0, 5), 0);
        Invoicebridge all = Check.made(ALL_CREDITS);
        check.due("24 credits", all.lineOf(0, 0, 0), 1000 - 48);
    }

    private static void promise6CreditRefused() {
        for (int wild : new int[] {Integer.MIN_VALUE, -1, 1, 20, Integer.MAX_VALUE}) {
            check.refused("credit of invoice " + wild, Check.INDEX, ONE_SENT, x -> x.credit(wild, 0, 10));
        }
        for (int wild : new int[] {Integer.MIN_VALUE, -1, 2, 3, Integer.MAX_VALUE}) {
            check.refused("credit of line " + wild, Check.INDEX, ONE_ACCEPTED, x -> x.credit(0, wild, 10));
            check.refused("credit, line first " + wild, Check.INDEX, ONE_ACCEPTED, x -> x.credit(0, wild, 0));
        }
        for (int wild : new int[] {Integer.MIN_VALUE, -1, 0, 1001, 10000, Integer.MAX_VALUE}) {
            check.refused("credit amount " + wild, Check.ARGUMENT, ONE_ACCEPTED, x -> x.credit(0, 0, wild));
            check.refused("credit, amount first " + wild, Check.ARGUMENT, ONE_REFUSED, x -> x.credit(0, 0, wild));
            check.refused("credit, amount before 24 " + wild, Check.ARGUMENT, ALL_CREDITS, x -> x.credit(0, 0, wild));
        }
        Check.Steps empty = x -> {
            ONE_ACCEPTED.on(x);
            x.credit(0, 1, 500);
        };
        check.refused("credit of a line of 0", Check.ARGUMENT, empty, x -> x.credit(0, 1, 1));
        check.refused("credit of a refused one", Check.STATE, ONE_REFUSED, x -> x.credit(0, 0, 1));
        check.refused("credit 25", Check.STATE, ALL_CREDITS, x -> x.credit(0, 0, 1));
    }

    private static void promise7Dispute() {
        Invoicebridge x = Check.made(ONE_ACCEPTED);
        check.due("dispute", x.dispute(0, 0), 535);
        check.due("disputed", x.lineOf(0, 0, 3), 1);
        check.due("it costs the same", x.about(0, 4), 1725);
        check.due("dispute the other one", x.dispute(0, 1), 0);
        Invoicebridge paid = Check.made(ONE_ACCEPTED);
        paid.payBySum(1, 0, 1725);
        check.due("dispute of a paid one, at least 0", paid.dispute(0, 1), 0);
        for (int wild : new int[] {Integer.MIN_VALUE, -1, 1, 20, Integer.MAX_VALUE}) {
            check.refused("dispute of invoice " + wild, Check.INDEX, ONE_ACCEPTED, y -> y.dispute(wild, 0));
        }
        for (int wild : new int[] {Integer.MIN_VALUE, -1, 2, 3, Integer.MAX_VALUE}) {
            check.refused("dispute of line " + wild, Check.INDEX, ONE_ACCEPTED, y -> y.dispute(0, wild));
            check.refused("dispute, line first " + wild, Check.INDEX, ONE_REFUSED, y -> y.dispute(0, wild));
        }
        check.refused("dispute of a sent one", Check.STATE, ONE_SENT, y -> y.dispute(0, 0));
        check.refused("dispute of a refused one", Check.STATE, ONE_REFUSED, y -> y.dispute(0, 0));
        check.refused("dispute twice", Check.STATE, ALL_CREDITS, y -> y.dispute(0, 0));
        Check.Steps empty = y -> {
            ONE_ACCEPTED.on(y);
            y.credit(0, 1, 500);
        };
        check.refused("dispute of 0", Check.STATE, empty, y -> y.dispute(0, 1));
    }

    private static void promise8Settle() {
        Invoicebridge x = Check.made(ONE_ACCEPTED);
        x.dispute(0, 0);
        x.dispute(0, 1);
        check.due("settle, the seller was right", x.settle(0, 0, false), 1190);
        check.due("its amount is as it was", x.lineOf(0, 0, 0), 1000);
        check.due("it is not disputed", x.lineOf(0, 0, 3), 0);
        check.due("settle, the buyer was right", x.settle(0, 1, true), 1190);
        check.due("its amount is 0", x.lineOf(0, 1, 0), 0);
        check.due("as it was made", x.lineOf(0, 1, 4), 500);
        check.due("it is not disputed", x.lineOf(0, 1, 3), 0);
        check.due("it can be disputed again", x.dispute(0, 0), 0);
        Check.Steps disputed = y -> {
            ONE_ACCEPTED.on(y);
            y.dispute(0, 0);
        };
        for (int wild : new int[] {Integer.MIN_VALUE, -1, 1, 20, Integer.MAX_VALUE}) {
            check.refused("settle of invoice " + wild, Check.INDEX, disputed, y -> y.settle(wild, 0, true));
        }
        for (int wild : new int[] {Integer.MIN_VALUE, -1, 2, 3, Integer.MAX_VALUE}) {
            check.refused("settle of line " + wild, Check.INDEX, disputed, y -> y.settle(0, wild, false));
        }
        check.refused("settle what is not disputed", Check.STATE, disputed, y -> y.settle(0, 1, true));
        check.refused("settle of a sent one", Check.STATE, ONE_SENT, y -> y.settle(0, 0, false));
        check.refused("settle of a refused one", Check.STATE, ONE_REFUSED, y -> y.settle(0, 0, true));
    }

    private static void promise8SettleAndCredits() {
        check.refused("settle with 24 credits", Check.STATE, ALL_CREDITS, x -> x.settle(0, 0, true));
        check.due("settle with 24 credits, the seller was right", Check.made(ALL_CREDITS).settle(0, 0, false), 952 + 180);
        Check.Steps emptied = x -> {
            ONE_ACCEPTED.on(x);
            x.dispute(0, 0);
            x.credit(0, 0, 1000);
            x.settle(0, 0, true);
            for (int i = 0; i < 22; i++) {
                x.credit(0, 1, 1);
            }
        };
        check.due("a dispute of 0 is settled by a credit of 0", Check.made(emptied).lineOf(0, 1, 0), 478);
        check.refused("which counts", Check.STATE, emptied, x -> x.credit(0, 1, 1));
    }
}
