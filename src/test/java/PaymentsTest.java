/** Promises 11 to 16: the draft, payments by text and by sum, and days that go by. */
public final class PaymentsTest {
    private static final Check check = new Check("PaymentsTest");

    private static final Check.Steps NOTHING = x -> { };
    private static final Check.Steps ACCEPTED = x -> {
        x.send(0, 1, 2, 1000, 19);
        x.accept(0);
    };
    private static final Check.Steps NAMED = x -> {
        ACCEPTED.on(x);
        Check.typeAll(x, "R0");
    };
    private static final Check.Steps FULL_DRAFT = x -> Check.typeAll(x, "R123456789");
    private static final Check.Steps ELEVEN = x -> {
        for (int i = 0; i < 11; i++) {
            x.send(0, 1, 2, 100 + i, 0);
            x.accept(i);
        }
    };

    public static void main(String[] args) {
        promise11Type();
        promise12Clear();
        promise13Fault();
        promise14PayByText();
        promise14PayByTextRefused();
        promise14PayByTextCannotBePaid();
        promise14PayByTextTellsWhy();
        promise15PayBySum();
        promise15PayBySumRefused();
        promise16Pass();
        check.end();
    }

    private static void promise11Type() {
        Invoicebridge x = new Invoicebridge();
        check.due("type the first sign", x.type(32), 1);
        check.due("type the last sign", x.type(126), 2);
        for (int i = 3; i <= 10; i++) {
            check.due("type " + i, x.type('R'), i);
        }
        for (int wild : new int[] {Integer.MIN_VALUE, -1, 0, 31, 127, 65536 + 82, Integer.MAX_VALUE}) {
            check.refused("type " + wild, Check.ARGUMENT, NAMED, y -> y.type(wild));
            check.refused("type, sign first " + wild, Check.ARGUMENT, FULL_DRAFT, y -> y.type(wild));
        }
        check.refused("type an eleventh", Check.STATE, FULL_DRAFT, y -> y.type('1'));
    }

    private static void promise12Clear() {
        Invoicebridge x = Check.made(FULL_DRAFT);
        check.due("clear", x.clear(), 10);
        check.due("clear again", x.clear(), 0);
        check.due("it is empty", x.fault(), 0);
        check.due("and takes signs", x.type('R'), 1);
    }

    private static void promise13Fault() {
        String[] texts = {"", "R", "r", "R0", "R00", "R000", "R7", "R07", "R20", "R99", "Rx", "R1x", "R12x",
            " R1", "1", "RR", "R 1", "R1 ", "R12 ", "R/", "R:", "R1/", "R1:", "R-1", "R100", "R123456789", "Q", "S"};
        int[] faults = {0, 1, 0, -1, -1, 3, -1, -1, -1, -1, 1, 2, 3,
            0, 0, 1, 1, 2, 3, 1, 1, 2, 2, 1, 3, 3, 0, 0};
        for (int i = 0; i < texts.length; i++) {
            Invoicebridge x = new Invoicebridge();
            Check.typeAll(x, texts[i]);
            check.due("fault of '" + texts[i] + "'", x.fault(), faults[i]);
            check.due("asking again", x.fault(), faults[i]);
        }
    }

    private static void promise14PayByText() {
        Invoicebridge x = Check.made(NAMED);
        check.due("payByText", x.payByText(1, 0, 190), 0);
        check.due("owed", x.about(0, 5), 1000);
        check.due("paid", x.about(0, 6), 190);
        check.due("the payer's cash", x.cash(1), -190);
        check.due("the other one's cash", x.cash(0), 190);
        check.due("the draft is empty", x.clear(), 0);
        x.sell(0, 4, 10, false);
        Check.typeAll(x, "R00");
        check.due("payByText to the holder, all", x.payByText(1, 4, 1000), 0);
        check.due("owed", x.about(0, 5), 0);
        check.due("paid", x.about(0, 6), 1190);
        check.due("the holder's cash", x.cash(4), 900);
        check.due("the seller's cash", x.cash(0), 290);
        String[] texts = {"R10", "R09", "R9", "R01"};
        int[] numbers = {10, 9, 9, 1};
        for (int i = 0; i < texts.length; i++) {
            Invoicebridge y = Check.made(ELEVEN);
            Check.typeAll(y, texts[i]);
            check.due("payByText " + texts[i], y.payByText(1, 0, 5), numbers[i]);
            check.due("paid " + texts[i], y.about(numbers[i], 6), 5);
        }
    }

    private static void promise14PayByTextRefused() {
        for (int wild : new int[] {Integer.MIN_VALUE, -1, 6, Integer.MAX_VALUE}) {
            check.refused("payByText from " + wild, Check.INDEX, NAMED, x -> x.payByText(wild, 0, 1));
            check.refused("payByText to " + wild, Check.INDEX, NAMED, x -> x.payByText(1, wild, 1));
            check.refused("payByText, both first " + wild, Check.INDEX, NOTHING, x -> x.payByText(wild, wild, 0));
        }
        for (int wild : new int[] {Integer.MIN_VALUE, -1, 0, 100000, Integer.MAX_VALUE}) {
            check.refused("payByText cents " + wild, Check.ARGUMENT, NAMED, x -> x.payByText(1, 0, wild));
            check.refused("payByText, cents first " + wild, Check.ARGUMENT, NOTHING, x -> x.payByText(1, 0, wild));
        }
        check.refused("payByText to oneself", Check.ARGUMENT, NAMED, x -> x.payByText(1, 1, 1));
        for (String text : new String[] {"", "R", "0", "R0 ", "R000", "R1", "R20", "R99"}) {
            Check.Steps typed = x -> {
                ACCEPTED.on(x);
                Check.typeAll(x, text);
            };
            check.refused("payByText '" + text + "'", Check.STATE, typed, x -> x.payByText(1, 0, 1));
        }
    }

    private static void promise14PayByTextCannotBePaid() {
        check.refused("payByText from another one", Check.STATE, NAMED, x -> x.payByText(2, 0, 1));
        check.refused("payByText from the seller", Check.STATE, NAMED, x -> x.payByText(0, 1, 1));
        check.refused("payByText to another one", Check.STATE, NAMED, x -> x.payByText(1, 2, 1));
        check.refused("payByText more than is owed", Check.STATE, NAMED, x -> x.payByText(1, 0, 1191));
        check.refused("payByText far more than is owed", Check.STATE, NAMED, x -> x.payByText(1, 0, 99999));
        Check.Steps sold = x -> {
            NAMED.on(x);
            x.sell(0, 5, 50, true);
        };
        check.refused("payByText to who does not hold it", Check.STATE, sold, x -> x.payByText(1, 0, 1));
        Check.Steps sent = x -> {
            x.send(0, 1, 2, 1000, 19);
            Check.typeAll(x, "R0");
        };
        check.refused("payByText what is sent", Check.STATE, sent, x -> x.payByText(1, 0, 1));
        Check.Steps refused = x -> {
            sent.on(x);
            x.refuse(0);
        };
        check.refused("payByText what is refused", Check.STATE, refused, x -> x.payByText(1, 0, 1));
        Check.Steps disputed = x -> {
            NAMED.on(x);
            x.dispute(0, 0);
        };
        check.refused("payByText what is disputed", Check.STATE, disputed, x -> x.payByText(1, 0, 1));
        Check.Steps paid = x -> {
            ACCEPTED.on(x);
            x.payBySum(1, 0, 1190);
            Check.typeAll(x, "R0");
        };
        check.refused("payByText what is paid", Check.STATE, paid, x -> x.payByText(1, 0, 1));
    }

    private static void promise14PayByTextTellsWhy() {
        check.due("why, a fault", why("R", 1, 0, 1), "the draft has a fault");
        check.due("why, no invoice", why("R1", 1, 0, 1), "there is no such invoice");
        check.due("why, the payer", why("R0", 2, 0, 1), "the payer is not the buyer of the invoice");
        check.due("why, the holder", why("R0", 1, 2, 1), "the paid company does not hold the invoice");
        check.due("why, the cents", why("R0", 1, 0, 1191), "less is owed of the invoice");
    }

    private static String why(String text, int payer, int to, int cents) {
        Invoicebridge x = Check.made(ACCEPTED);
        Check.typeAll(x, text);
        try {
            x.payByText(payer, to, cents);
            return "nothing";
        } catch (IllegalStateException e) {
            return e.getMessage();
        }
    }

    private static void promise15PayBySum() {
        Invoicebridge x = new Invoicebridge();
        x.send(0, 2, 0, 100, 0);
        x.send(0, 1, 0, 100, 0);
        x.send(0, 1, 0, 200, 0);
        x.send(0, 1, 0, 100, 0);
        x.send(3, 1, 0, 100, 0);
        x.send(0, 1, 0, 50, 0);
        for (int i = 0; i < 5; i++) {
            x.accept(i);
        }
        Check.typeAll(x, "R4");
        check.due("payBySum, the lowest", x.payBySum(1, 0, 100), 1);
        check.due("payBySum, the next", x.payBySum(1, 0, 100), 3);
        check.due("none is left", Check.answer(y -> y.payBySum(1, 0, 100), x), "throws.IllegalStateException");
        check.due("of what is sent nothing is owed", Check.answer(y -> y.payBySum(1, 0, 50), x), "throws.IllegalStateException");
        check.due("another sum", x.payBySum(1, 0, 200), 2);
        check.due("another payer", x.payBySum(2, 0, 100), 0);
        check.due("the draft is as it was", x.fault(), Invoicebridge.NONE);
        x.sell(4, 0, 50, true);
        check.due("the first one's cash", x.cash(0), 500 - 50);
        check.due("to the holder", x.payBySum(1, 0, 100), 4);
        check.due("paid", x.about(4, 6), 100);
        check.due("the draft has its signs", x.clear(), 2);
        check.due("the payer's cash", x.cash(1), -500);
        Invoicebridge partly = Check.made(NAMED);
        partly.payByText(1, 0, 1);
        check.due("payBySum what is owed still", partly.payBySum(1, 0, 1189), 0);
    }

    private static void promise15PayBySumRefused() {
        for (int wild : new int[] {Integer.MIN_VALUE, -1, 6, Integer.MAX_VALUE}) {
            check.refused("payBySum from " + wild, Check.INDEX, ACCEPTED, x -> x.payBySum(wild, 0, 1190));
            check.refused("payBySum to " + wild, Check.INDEX, ACCEPTED, x -> x.payBySum(1, wild, 1190));
            check.refused("payBySum, both first " + wild, Check.INDEX, NOTHING, x -> x.payBySum(wild, wild, 0));
        }
        for (int wild : new int[] {Integer.MIN_VALUE, -1, 0, 100000, Integer.MAX_VALUE}) {
            check.refused("payBySum cents " + wild, Check.ARGUMENT, ACCEPTED, x -> x.payBySum(1, 0, wild));
        }
        check.refused("payBySum to oneself", Check.ARGUMENT, ACCEPTED, x -> x.payBySum(1, 1, 1190));
        check.refused("payBySum less", Check.STATE, NAMED, x -> x.payBySum(1, 0, 1189));
        check.refused("payBySum more", Check.STATE, NAMED, x -> x.payBySum(1, 0, 1191));
        check.refused("payBySum 99999", Check.STATE, NAMED, x -> x.payBySum(1, 0, 99999));
        check.refused("payBySum from another one", Check.STATE, NAMED, x -> x.payBySum(2, 0, 1190));
        check.refused("payBySum to another one", Check.STATE, NAMED, x -> x.payBySum(1, 2, 1190));
        Check.Steps sold = x -> {
            ACCEPTED.on(x);
            x.sell(0, 5, 50, true);
        };
        check.refused("payBySum to who does not hold it", Check.STATE, sold, x -> x.payBySum(1, 0, 1190));
    }

    private static void promise16Pass() {
        Invoicebridge x = new Invoicebridge();
        check.due("pass 1", x.pass(1), 0);
        check.due("pass to 29", x.pass(28), 0);
        check.due("pass to 30", x.pass(1), 1);
        check.due("day", x.day(), 30);
        check.due("pass 60", x.pass(60), 3);
        for (int i = 0; i < 15; i++) {
            x.pass(60);
        }
        check.due("day 990", x.day(), 990);
        check.due("pass to the last day", x.pass(9), 33);
        check.due("the last day", x.day(), 999);
        Check.Steps late = y -> {
            ACCEPTED.on(y);
            for (int i = 0; i < 16; i++) {
                y.pass(60);
            }
        };
        for (int wild : new int[] {Integer.MIN_VALUE, -1, 0, 61, Integer.MAX_VALUE}) {
            check.refused("pass " + wild, Check.ARGUMENT, ACCEPTED, y -> y.pass(wild));
            check.refused("pass, days first " + wild, Check.ARGUMENT, late, y -> y.pass(wild));
        }
        check.refused("pass to 1000", Check.STATE, late, y -> y.pass(40));
        check.refused("pass to 1020", Check.STATE, late, y -> y.pass(60));
        check.due("pass to 999", Check.made(late).pass(39), 33);
    }
}
