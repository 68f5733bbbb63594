/** The boundary cases of the promises 9 and 10; a method a sentence. */
public final class HoldersEdgesTest {
    private static final Check check = new Check("HoldersEdgesTest");

    private static final Check.Steps ACCEPTED = x -> {
        x.send(0, 1, 2, 1000, 0);
        x.addLine(0, 500, 0);
        x.accept(0);
    };
    private static final Check.Steps WITH_RECOURSE = x -> {
        ACCEPTED.on(x);
        x.sell(0, 5, 50, true);
    };
    private static final Check.Steps WITHOUT_RECOURSE = x -> {
        ACCEPTED.on(x);
        x.sell(0, 5, 50, false);
    };
    private static final int[] NO_INVOICES = {Integer.MIN_VALUE, -1, 1, 19, 20, Integer.MAX_VALUE};

    public static void main(String[] args) {
        promise9Invoice();
        promise9Company();
        promise9Part();
        promise9SellerOrBuyer();
        promise9NotAccepted();
        promise9NothingOwed();
        promise9NotHeldBySeller();
        promise10Invoice();
        promise10HeldBySeller();
        promise10WithoutRecourse();
        promise10LastSaleCounts();
        promise10NothingOwed();
        promise10WhatWasPaid();
        check.end();
    }

    // "if there is no such invoice"
    private static void promise9Invoice() {
        for (int wild : NO_INVOICES) {
            check.refused("sell " + wild, Check.INDEX, ACCEPTED, x -> x.sell(wild, 5, 50, true));
        }
        check.due("sell, none made", Check.INDEX, x -> x.sell(0, 5, 50, true), new Invoicebridge());
    }

    // "or company"
    private static void promise9Company() {
        for (int to = 2; to <= 5; to++) {
            check.due("sell to " + to, Check.made(ACCEPTED).sell(0, to, 100, false), 1500);
        }
        for (int wild : new int[] {Integer.MIN_VALUE, -1, 6, 7, Integer.MAX_VALUE}) {
            check.refused("sell to " + wild, Check.INDEX, ACCEPTED, x -> x.sell(0, wild, 50, true));
        }
        Invoicebridge x = new Invoicebridge();
        x.send(4, 5, 0, 100, 0);
        x.accept(0);
        check.due("sell to 0", x.sell(0, 0, 100, true), 100);
        check.due("held by 0", x.about(0, 3), 0);
    }

    // "if part is out of range": 1 to 100
    private static void promise9Part() {
        int[] parts = {1, 2, 99, 100};
        int[] paid = {15, 30, 1485, 1500};
        for (int i = 0; i < parts.length; i++) {
            check.due("sell for " + parts[i], Check.made(ACCEPTED).sell(0, 5, parts[i], true), paid[i]);
        }
        for (int wild : new int[] {Integer.MIN_VALUE, -1, 0, 101, 102, Integer.MAX_VALUE}) {
            check.refused("sell for " + wild, Check.ARGUMENT, ACCEPTED, x -> x.sell(0, 5, wild, true));
        }
    }

    // "or the company is its seller or buyer"
    private static void promise9SellerOrBuyer() {
        check.refused("sell to the seller", Check.ARGUMENT, ACCEPTED, x -> x.sell(0, 0, 50, true));
        check.refused("sell to the buyer", Check.ARGUMENT, ACCEPTED, x -> x.sell(0, 1, 50, true));
        check.refused("sold, to the seller", Check.ARGUMENT, WITH_RECOURSE, x -> x.sell(0, 0, 50, true));
        check.refused("sold, to the buyer", Check.ARGUMENT, WITH_RECOURSE, x -> x.sell(0, 1, 50, true));
        Check.Steps others = x -> {
            ACCEPTED.on(x);
            x.send(2, 3, 0, 100, 0);
            x.accept(1);
        };
        check.due("to the seller of another one", Check.made(others).sell(1, 0, 100, true), 100);
        check.due("to the buyer of another one", Check.made(others).sell(1, 1, 100, true), 100);
    }

    // "if it is not ACCEPTED"
    private static void promise9NotAccepted() {
        Check.Steps sent = x -> x.send(0, 1, 2, 1000, 0);
        Check.Steps refused = x -> {
            sent.on(x);
            x.refuse(0);
        };
        check.refused("sell, sent", Check.STATE, sent, x -> x.sell(0, 5, 50, true));
        check.refused("sell, refused", Check.STATE, refused, x -> x.sell(0, 5, 50, true));
    }

    // "nothing is owed of it"
    private static void promise9NothingOwed() {
        Check.Steps credited = x -> {
            ACCEPTED.on(x);
            x.credit(0, 0, 1000);
            x.credit(0, 1, 499);
        };
        check.due("sell, 1 is owed", Check.made(credited).sell(0, 5, 100, true), 1);
        check.due("sell, 1 is owed, for 99", Check.made(credited).sell(0, 5, 99, true), 0);
        Check.Steps allCredited = x -> {
            credited.on(x);
            x.credit(0, 1, 1);
        };
        check.refused("sell, credited", Check.STATE, allCredited, x -> x.sell(0, 5, 100, true));
        Check.Steps partlyPaid = x -> {
            ACCEPTED.on(x);
            Check.typeAll(x, "R0");
            x.payByText(1, 0, 1499);
        };
        check.due("sell, all but 1 is paid", Check.made(partlyPaid).sell(0, 5, 100, true), 1);
        Check.Steps paid = x -> {
            partlyPaid.on(x);
            x.payBySum(1, 0, 1);
        };
        check.refused("sell, paid", Check.STATE, paid, x -> x.sell(0, 5, 100, true));
        Check.Steps disputed = x -> {
            ACCEPTED.on(x);
            x.dispute(0, 0);
        };
        check.due("sell, a line is disputed", Check.made(disputed).sell(0, 5, 100, true), 500);
        Check.Steps allDisputed = x -> {
            disputed.on(x);
            x.dispute(0, 1);
        };
        check.refused("sell, disputed", Check.STATE, allDisputed, x -> x.sell(0, 5, 100, true));
        Invoicebridge settled = Check.made(allDisputed);
        settled.settle(0, 1, false);
        check.due("sell, settled", settled.sell(0, 5, 100, true), 500);
    }

    // "or its seller does not hold it"
    private static void promise9NotHeldBySeller() {
        for (int to = 2; to <= 5; to++) {
            int other = to;
            check.refused("sell again to " + to, Check.STATE, WITH_RECOURSE, x -> x.sell(0, other, 50, true));
            check.refused("sell again, without recourse, to " + to, Check.STATE, WITHOUT_RECOURSE, x -> x.sell(0, other, 50, false));
        }
        Invoicebridge x = Check.made(WITH_RECOURSE);
        x.giveBack(0);
        check.due("sell, given back", x.sell(0, 5, 50, true), 750);
    }

    // "if there is no such invoice"
    private static void promise10Invoice() {
        for (int wild : NO_INVOICES) {
            check.refused("giveBack " + wild, Check.INDEX, WITH_RECOURSE, x -> x.giveBack(wild));
        }
        check.due("giveBack, none made", Check.INDEX, x -> x.giveBack(0), new Invoicebridge());
    }

    // "if it is held by its seller"
    private static void promise10HeldBySeller() {
        Check.Steps sent = x -> x.send(0, 1, 2, 1000, 0);
        Check.Steps refused = x -> {
            sent.on(x);
            x.refuse(0);
        };
        Check.Steps returned = x -> {
            WITH_RECOURSE.on(x);
            x.giveBack(0);
        };
        check.refused("giveBack, sent", Check.STATE, sent, x -> x.giveBack(0));
        check.refused("giveBack, refused", Check.STATE, refused, x -> x.giveBack(0));
        check.refused("giveBack, not sold", Check.STATE, ACCEPTED, x -> x.giveBack(0));
        check.refused("giveBack, given back", Check.STATE, returned, x -> x.giveBack(0));
        check.due("giveBack, sold", Check.made(WITH_RECOURSE).giveBack(0), 750);
    }

    // "was sold without recourse"
    private static void promise10WithoutRecourse() {
        check.refused("giveBack without recourse", Check.STATE, WITHOUT_RECOURSE, x -> x.giveBack(0));
        Check.Steps two = x -> {
            WITHOUT_RECOURSE.on(x);
            x.send(0, 1, 2, 100, 0);
            x.accept(1);
            x.sell(1, 5, 100, true);
        };
        check.refused("the one without recourse", Check.STATE, two, x -> x.giveBack(0));
        check.due("the one with recourse", Check.made(two).giveBack(1), 100);
    }

    // "it can be sold again": with or without recourse, whatever it was ahead
    private static void promise10LastSaleCounts() {
        Check.Steps withThenWithout = x -> {
            WITH_RECOURSE.on(x);
            x.giveBack(0);
            x.sell(0, 4, 10, false);
        };
        check.refused("giveBack, now without recourse", Check.STATE, withThenWithout, x -> x.giveBack(0));
        Check.Steps withTwice = x -> {
            WITH_RECOURSE.on(x);
            x.giveBack(0);
            x.sell(0, 4, 10, true);
        };
        Invoicebridge x = Check.made(withTwice);
        check.due("giveBack, what was paid last", x.giveBack(0), 150);
        check.due("to who paid it", x.cash(4), 0);
    }

    // "or nothing is owed of it"
    private static void promise10NothingOwed() {
        Check.Steps partlyPaid = x -> {
            WITH_RECOURSE.on(x);
            Check.typeAll(x, "R0");
            x.payByText(1, 5, 1499);
        };
        check.due("giveBack, 1 is owed", Check.made(partlyPaid).giveBack(0), 750);
        Check.Steps paid = x -> {
            partlyPaid.on(x);
            x.payBySum(1, 5, 1);
        };
        check.refused("giveBack, paid", Check.STATE, paid, x -> x.giveBack(0));
        Check.Steps credited = x -> {
            WITH_RECOURSE.on(x);
            x.credit(0, 0, 1000);
            x.credit(0, 1, 500);
        };
        check.refused("giveBack, credited", Check.STATE, credited, x -> x.giveBack(0));
        Check.Steps disputed = x -> {
            WITH_RECOURSE.on(x);
            x.dispute(0, 0);
            x.dispute(0, 1);
        };
        check.refused("giveBack, disputed", Check.STATE, disputed, x -> x.giveBack(0));
        Invoicebridge settled = Check.made(disputed);
        settled.settle(0, 0, true);
        check.due("nothing yet", Check.STATE, x -> x.giveBack(0), settled);
        settled.settle(0, 1, false);
        check.due("giveBack, settled", settled.giveBack(0), 750);
    }

    // "what the seller pays back": what was paid for it, whatever is owed then
    private static void promise10WhatWasPaid() {
        Invoicebridge x = Check.made(WITH_RECOURSE);
        x.credit(0, 0, 1000);
        x.credit(0, 1, 499);
        check.due("more than is owed", x.giveBack(0), 750);
        check.due("the seller's cash", x.cash(0), 0);
        check.due("the holder's cash", x.cash(5), 0);
        check.due("anew", x.cashAnew(5), 0);
        Invoicebridge free = new Invoicebridge();
        free.send(0, 1, 0, 99, 0);
        free.accept(0);
        free.sell(0, 2, 1, true);
        check.due("sold for 0", free.giveBack(0), 0);
        check.due("held by the seller", free.about(0, 3), 0);
    }
}
