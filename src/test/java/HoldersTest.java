/** Promises 9 and 10: invoices are sold, and given back by recourse. */
public final class HoldersTest {
    private static final Check check = new Check("HoldersTest");

    private static final Check.Steps ACCEPTED = x -> {
        x.send(0, 1, 2, 1000, 19);
        x.addLine(0, 333, 0);
        x.accept(0);
    };
    private static final Check.Steps WITH_RECOURSE = x -> {
        ACCEPTED.on(x);
        x.sell(0, 3, 90, true);
    };
    private static final Check.Steps WITHOUT_RECOURSE = x -> {
        ACCEPTED.on(x);
        x.sell(0, 3, 90, false);
    };
    private static final Check.Steps ALL_PAID = x -> {
        WITH_RECOURSE.on(x);
        x.payBySum(1, 3, 1523);
    };

    public static void main(String[] args) {
        promise9Sell();
        promise9SellRefused();
        promise10GiveBack();
        promise10GiveBackRefused();
        promise10SoldAgain();
        check.end();
    }

    private static void promise9Sell() {
        Invoicebridge x = Check.made(ACCEPTED);
        check.due("sell, rounded down", x.sell(0, 3, 90, false), 1370);
        check.due("its holder", x.about(0, 3), 3);
        check.due("its seller", x.about(0, 1), 0);
        check.due("the seller's cash", x.cash(0), 1370);
        check.due("the holder's cash", x.cash(3), -1370);
        check.due("owed as before", x.about(0, 5), 1523);
        check.due("owed to the holder", x.owedTo(3), 1523);
        check.due("not to the seller", x.owedTo(0), 0);
        check.due("nothing was paid", x.about(0, 6), 0);
        check.due("sell for all", Check.made(ACCEPTED).sell(0, 5, 100, true), 1523);
        Invoicebridge small = new Invoicebridge();
        small.send(4, 5, 0, 99, 0);
        small.accept(0);
        check.due("sell for a hundredth", small.sell(0, 0, 1, true), 0);
        check.due("held for nothing", small.about(0, 3), 0);
        Invoicebridge partly = Check.made(ACCEPTED);
        partly.dispute(0, 0);
        partly.payBySum(1, 0, 333);
        partly.settle(0, 0, false);
        check.due("sell what is owed still", partly.sell(0, 2, 50, true), 595);
    }

    private static void promise9SellRefused() {
        for (int wild : new int[] {Integer.MIN_VALUE, -1, 1, 20, Integer.MAX_VALUE}) {
            check.refused("sell invoice " + wild, Check.INDEX, ACCEPTED, x -> x.sell(wild, 3, 90, true));
        }
        for (int wild : new int[] {Integer.MIN_VALUE, -1, 6, Integer.MAX_VALUE}) {
            check.refused("sell to " + wild, Check.INDEX, ACCEPTED, x -> x.sell(0, wild, 90, true));
            check.refused("sell, company first " + wild, Check.INDEX, ACCEPTED, x -> x.sell(0, wild, 0, true));
        }
        for (int wild : new int[] {Integer.MIN_VALUE, -1, 0, 101, Integer.MAX_VALUE}) {
            check.refused("sell part " + wild, Check.ARGUMENT, ACCEPTED, x -> x.sell(0, 3, wild, true));
            check.refused("sell, part first " + wild, Check.ARGUMENT, WITH_RECOURSE, x -> x.sell(0, 3, wild, true));
        }
        check.refused("sell to the seller", Check.ARGUMENT, ACCEPTED, x -> x.sell(0, 0, 50, true));
        check.refused("sell to the buyer", Check.ARGUMENT, ACCEPTED, x -> x.sell(0, 1, 50, true));
        check.refused("sell to the seller, held by another one", Check.ARGUMENT, WITH_RECOURSE, x -> x.sell(0, 0, 50, true));
        check.refused("sell twice", Check.STATE, WITH_RECOURSE, x -> x.sell(0, 4, 50, true));
        check.refused("sell to its holder", Check.STATE, WITHOUT_RECOURSE, x -> x.sell(0, 3, 50, true));
        check.refused("sell what is not accepted", Check.STATE, x -> x.send(0, 1, 2, 10, 7), x -> x.sell(0, 3, 50, true));
        Check.Steps refused = x -> {
            x.send(0, 1, 2, 10, 7);
            x.refuse(0);
        };
        check.refused("sell what is refused", Check.STATE, refused, x -> x.sell(0, 3, 50, true));
        Check.Steps paid = x -> {
            ACCEPTED.on(x);
            x.payBySum(1, 0, 1523);
        };
        check.refused("sell what is paid", Check.STATE, paid, x -> x.sell(0, 3, 50, true));
        Check.Steps disputed = x -> {
            ACCEPTED.on(x);
            x.dispute(0, 0);
            x.dispute(0, 1);
        };
        check.refused("sell what is disputed", Check.STATE, disputed, x -> x.sell(0, 3, 50, true));
    }

    private static void promise10GiveBack() {
        Invoicebridge x = Check.made(WITH_RECOURSE);
        x.credit(0, 0, 500);
        Check.typeAll(x, "R0");
        x.payByText(1, 3, 100);
        check.due("giveBack, what was paid for it", x.giveBack(0), 1370);
        check.due("its holder", x.about(0, 3), 0);
        check.due("the seller's cash", x.cash(0), 0);
        check.due("the payment stays", x.cash(3), 100);
        check.due("owed to the seller", x.owedTo(0), 500 + 95 + 333 - 100);
        check.due("owed to the other one", x.owedTo(3), 0);
    }

    private static void promise10GiveBackRefused() {
        for (int wild : new int[] {Integer.MIN_VALUE, -1, 1, 20, Integer.MAX_VALUE}) {
            check.refused("giveBack " + wild, Check.INDEX, WITH_RECOURSE, x -> x.giveBack(wild));
        }
        check.refused("giveBack what was not sold", Check.STATE, ACCEPTED, x -> x.giveBack(0));
        check.refused("giveBack without recourse", Check.STATE, WITHOUT_RECOURSE, x -> x.giveBack(0));
        check.refused("giveBack what is paid", Check.STATE, ALL_PAID, x -> x.giveBack(0));
        Check.Steps disputed = x -> {
            WITH_RECOURSE.on(x);
            x.dispute(0, 0);
            x.dispute(0, 1);
        };
        check.refused("giveBack what is disputed", Check.STATE, disputed, x -> x.giveBack(0));
        Check.Steps returned = x -> {
            WITH_RECOURSE.on(x);
            x.giveBack(0);
        };
        check.refused("giveBack twice", Check.STATE, returned, x -> x.giveBack(0));
        check.refused("giveBack what is sent", Check.STATE, x -> x.send(0, 1, 2, 10, 7), x -> x.giveBack(0));
    }

    private static void promise10SoldAgain() {
        Invoicebridge x = Check.made(WITH_RECOURSE);
        x.giveBack(0);
        check.due("sold again", x.sell(0, 4, 50, true), 761);
        check.due("its holder", x.about(0, 3), 4);
        check.due("given back again", x.giveBack(0), 761);
        check.due("sold a third time", x.sell(0, 3, 10, false), 152);
        check.due("without recourse now", Check.answer(y -> y.giveBack(0), x), "throws.IllegalStateException");
        check.due("the seller's cash", x.cash(0), 152);
        check.due("anew", x.cashAnew(0), 152);
        check.due("a holder's cash", x.cash(4), 0);
        check.due("the last one's cash", x.cashAnew(3), -152);
    }
}
