/** The boundary cases of the promises 11 to 16: on both sides of each bound; a method a sentence. */
public final class PaymentsEdgesTest {
    private static final Check check = new Check("PaymentsEdgesTest");

    private static final Check.Steps ACCEPTED = x -> {
        x.send(0, 1, 2, 1000, 19);
        x.accept(0);
    };
    private static final Check.Steps NAMED = x -> {
        ACCEPTED.on(x);
        Check.typeAll(x, "R0");
    };
    private static final Check.Steps LAST_DAY = x -> {
        ACCEPTED.on(x);
        for (int i = 0; i < 16; i++) {
            x.pass(60);
        }
        x.pass(39);
    };
    private static final int[] NO_COMPANIES = {Integer.MIN_VALUE, -1, 6, 7, Integer.MAX_VALUE};
    private static final int[] NO_CENTS = {Integer.MIN_VALUE, -1, 0, 100000, 100001, Integer.MAX_VALUE};

    public static void main(String[] args) {
        promise11Sign();
        promise11TenSigns();
        promise12();
        promise13();
        promise14Companies();
        promise14Cents();
        promise14SameCompanies();
        promise14Fault();
        promise14NoSuchInvoice();
        promise14NotPaidSo();
        promise14EmptyThen();
        promise14And15CashOfTheHolder();
        promise15Companies();
        promise15Cents();
        promise15SameCompanies();
        promise15NoSuchInvoice();
        promise15LeavesTheDraft();
        promise16Days();
        promise16Day999();
        promise16Months();
        check.end();
    }

    // "if sign is out of range": 32 to 126
    private static void promise11Sign() {
        for (int sign = 0; sign <= 260; sign++) {
            int put = sign;
            Invoicebridge x = new Invoicebridge();
            if (sign < 32 || sign > 126) {
                check.due("type " + sign, Check.ARGUMENT, y -> y.type(put), x);
                check.due("nothing was put", x.clear(), 0);
            } else {
                check.due("type " + sign, x.type(put), 1);
            }
        }
        for (int wild : new int[] {Integer.MIN_VALUE, -1, 31, 127, 65536 + 'R', Integer.MAX_VALUE}) {
            check.refused("type " + wild, Check.ARGUMENT, NAMED, x -> x.type(wild));
        }
    }

    // "if it has 10"
    private static void promise11TenSigns() {
        Check.Steps nine = x -> Check.typeAll(x, "R00000000");
        Check.Steps ten = x -> Check.typeAll(x, "R000000000");
        check.due("the 10th", Check.made(nine).type('0'), 10);
        check.refused("the 11th", Check.STATE, ten, x -> x.type('0'));
        Invoicebridge x = Check.made(ten);
        x.clear();
        check.due("behind clear", x.type('R'), 1);
    }

    // "Empties the draft; returns how many signs it had."
    private static void promise12() {
        Invoicebridge x = new Invoicebridge();
        check.due("clear, empty", x.clear(), 0);
        for (int length = 1; length <= 10; length++) {
            for (int i = 1; i <= length; i++) {
                x.type('R');
            }
            check.due("clear, " + length, x.clear(), length);
            check.due("clear, twice", x.clear(), 0);
        }
    }

    // "Returns the fault of the draft; NONE if it has none."
    private static void promise13() {
        Invoicebridge x = new Invoicebridge();
        int[] faults = {1, Invoicebridge.NONE, Invoicebridge.NONE, 3, 3, 3, 3, 3, 3, 3};
        check.due("fault, empty", x.fault(), 0);
        for (int i = 0; i < 10; i++) {
            x.type("R123456789".charAt(i));
            check.due("fault, " + (i + 1) + " signs", x.fault(), faults[i]);
        }
        x.clear();
        check.due("fault, cleared", x.fault(), 0);
        check.due("NONE", Invoicebridge.NONE, -1);
    }

    // "if there is no such company, of either"
    private static void promise14Companies() {
        for (int wild : NO_COMPANIES) {
            check.refused("payByText from " + wild, Check.INDEX, NAMED, x -> x.payByText(wild, 0, 1));
            check.refused("payByText to " + wild, Check.INDEX, NAMED, x -> x.payByText(1, wild, 1));
            check.refused("payByText from and to " + wild, Check.INDEX, NAMED, x -> x.payByText(wild, wild, 1));
        }
        Invoicebridge x = new Invoicebridge();
        x.send(5, 0, 0, 10, 0);
        x.send(0, 5, 0, 20, 0);
        x.accept(0);
        x.accept(1);
        Check.typeAll(x, "R0");
        check.due("payByText from 0 to 5", x.payByText(0, 5, 10), 0);
        Check.typeAll(x, "R1");
        check.due("payByText from 5 to 0", x.payByText(5, 0, 20), 1);
    }

    // "if cents is out of range": 1 to 99999
    private static void promise14Cents() {
        check.due("payByText 1", Check.made(NAMED).payByText(1, 0, 1), 0);
        for (int wild : NO_CENTS) {
            check.refused("payByText cents " + wild, Check.ARGUMENT, NAMED, x -> x.payByText(1, 0, wild));
        }
        // 99999 is in range, but more than can be owed of three lines.
        check.refused("payByText 99999", Check.STATE, NAMED, x -> x.payByText(1, 0, 99999));
        Invoicebridge most = new Invoicebridge();
        most.send(0, 1, 0, 9999, 19);
        most.addLine(0, 9999, 19);
        most.addLine(0, 9999, 19);
        check.due("the most that can be owed", most.accept(0), 35694);
        Check.typeAll(most, "R0");
        check.due("one more", Check.STATE, x -> x.payByText(1, 0, 35695), most);
        check.due("payByText of it", most.payByText(1, 0, 35694), 0);
    }

    // "or both companies are the same"
    private static void promise14SameCompanies() {
        for (int company = 0; company < 6; company++) {
            int same = company;
            check.refused("payByText by itself " + same, Check.ARGUMENT, NAMED, x -> x.payByText(same, same, 1));
        }
    }

    // "if the draft has a fault"
    private static void promise14Fault() {
        for (String text : new String[] {"", "R", "r0", "0", " R0", "R0 ", "R000", "R-0", "RR0", "R000000000"}) {
            Check.Steps typed = x -> {
                ACCEPTED.on(x);
                Check.typeAll(x, text);
            };
            check.refused("payByText '" + text + "'", Check.STATE, typed, x -> x.payByText(1, 0, 1));
        }
    }

    // "there is no such invoice"
    private static void promise14NoSuchInvoice() {
        for (String text : new String[] {"R0", "R00", "R1", "R19", "R20", "R99"}) {
            check.refused("payByText '" + text + "', none made", Check.STATE, x -> Check.typeAll(x, text), x -> x.payByText(1, 0, 1));
        }
        Check.Steps twenty = x -> {
            for (int i = 0; i < 20; i++) {
                x.send(0, 1, 0, 100, 0);
                x.accept(i);
            }
        };
        for (int number = 0; number < 20; number++) {
            Invoicebridge x = Check.made(twenty);
            Check.typeAll(x, "R" + number);
            check.due("payByText R" + number, x.payByText(1, 0, 1), number);
            Check.typeAll(x, "R" + number / 10 + number % 10);
            check.due("payByText R" + number + " of 2 digits", x.payByText(1, 0, 99), number);
            check.due("paid", x.about(number, 6), 100);
            check.due("owed by all", x.owes(1), 1900);
        }
        for (String text : new String[] {"R20", "R21", "R30", "R99"}) {
            Check.Steps typed = x -> {
                twenty.on(x);
                Check.typeAll(x, text);
            };
            check.refused("payByText '" + text + "' of 20", Check.STATE, typed, x -> x.payByText(1, 0, 1));
        }
    }

    // "or it cannot be paid so"
    private static void promise14NotPaidSo() {
        Check.Steps sold = x -> {
            NAMED.on(x);
            x.sell(0, 5, 50, true);
        };
        check.refused("payByText from another one", Check.STATE, NAMED, x -> x.payByText(2, 0, 1));
        check.refused("payByText to another one", Check.STATE, NAMED, x -> x.payByText(1, 2, 1));
        check.refused("payByText the other way round", Check.STATE, NAMED, x -> x.payByText(0, 1, 1));
        check.refused("payByText of one more", Check.STATE, NAMED, x -> x.payByText(1, 0, 1191));
        check.refused("payByText to the seller of a sold one", Check.STATE, sold, x -> x.payByText(1, 0, 1));
        check.refused("payByText from the holder", Check.STATE, sold, x -> x.payByText(5, 0, 1));
        check.due("payByText to its holder", Check.made(sold).payByText(1, 5, 1190), 0);
        Check.Steps returned = x -> {
            sold.on(x);
            x.giveBack(0);
        };
        check.refused("payByText to who gave it back", Check.STATE, returned, x -> x.payByText(1, 5, 1));
        check.due("payByText to the seller again", Check.made(returned).payByText(1, 0, 1190), 0);
        Check.Steps paid = x -> {
            ACCEPTED.on(x);
            x.payBySum(1, 0, 1190);
            Check.typeAll(x, "R0");
        };
        check.refused("payByText, paid", Check.STATE, paid, x -> x.payByText(1, 0, 1));
    }

    // "Pays by text; the draft is empty then."
    private static void promise14EmptyThen() {
        Invoicebridge x = Check.made(NAMED);
        x.payByText(1, 0, 1);
        check.due("its fault", x.fault(), 0);
        check.due("nothing is named", Check.STATE, y -> y.payByText(1, 0, 1), x);
        check.due("its length", x.clear(), 0);
        Invoicebridge refused = Check.made(NAMED);
        check.due("a refused one", Check.STATE, y -> y.payByText(1, 0, 1191), refused);
        check.due("leaves the draft", refused.payByText(1, 0, 1190), 0);
    }

    // "A payment is of some cents from a company to another one": not to the seller of a sold invoice
    private static void promise14And15CashOfTheHolder() {
        Invoicebridge x = Check.made(NAMED);
        x.sell(0, 5, 100, true);
        x.payByText(1, 5, 90);
        dueCash(x, "by text", 1190, -90, -1190 + 90);
        x.payBySum(1, 5, 1100);
        dueCash(x, "by sum", 1190, -1190, 0);
    }

    private static void dueCash(Invoicebridge x, String how, int seller, int buyer, int holder) {
        check.due("the seller's cash " + how, x.cash(0), seller);
        check.due("the buyer's cash " + how, x.cash(1), buyer);
        check.due("the holder's cash " + how, x.cash(5), holder);
        check.due("the seller's cash anew " + how, x.cashAnew(0), seller);
        check.due("the buyer's cash anew " + how, x.cashAnew(1), buyer);
        check.due("the holder's cash anew " + how, x.cashAnew(5), holder);
    }

    // "if there is no such company, of either"
    private static void promise15Companies() {
        for (int wild : NO_COMPANIES) {
            check.refused("payBySum from " + wild, Check.INDEX, NAMED, x -> x.payBySum(wild, 0, 1190));
            check.refused("payBySum to " + wild, Check.INDEX, NAMED, x -> x.payBySum(1, wild, 1190));
            check.refused("payBySum from and to " + wild, Check.INDEX, NAMED, x -> x.payBySum(wild, wild, 1190));
        }
        Invoicebridge x = new Invoicebridge();
        x.send(5, 0, 0, 10, 0);
        x.send(0, 5, 0, 20, 0);
        x.accept(0);
        x.accept(1);
        check.due("payBySum from 0 to 5", x.payBySum(0, 5, 10), 0);
        check.due("payBySum from 5 to 0", x.payBySum(5, 0, 20), 1);
    }

    // "if cents is out of range": 1 to 99999
    private static void promise15Cents() {
        Invoicebridge least = new Invoicebridge();
        least.send(0, 1, 0, 1, 0);
        least.accept(0);
        check.due("payBySum 1", least.payBySum(1, 0, 1), 0);
        for (int wild : NO_CENTS) {
            check.refused("payBySum cents " + wild, Check.ARGUMENT, NAMED, x -> x.payBySum(1, 0, wild));
        }
        // Of what is paid 0 is owed, and still 0 cents are out of range.
        Check.Steps paid = x -> {
            ACCEPTED.on(x);
            x.payBySum(1, 0, 1190);
        };
        check.refused("payBySum 0 of a paid one", Check.ARGUMENT, paid, x -> x.payBySum(1, 0, 0));
        check.refused("payBySum 99999", Check.STATE, NAMED, x -> x.payBySum(1, 0, 99999));
        Invoicebridge most = new Invoicebridge();
        most.send(0, 1, 0, 9999, 19);
        most.addLine(0, 9999, 19);
        most.addLine(0, 9999, 19);
        most.accept(0);
        check.due("payBySum of the most that can be owed", most.payBySum(1, 0, 35694), 0);
    }

    // "or both companies are the same"
    private static void promise15SameCompanies() {
        for (int company = 0; company < 6; company++) {
            int same = company;
            check.refused("payBySum by itself " + same, Check.ARGUMENT, NAMED, x -> x.payBySum(same, same, 1190));
        }
    }

    // "if there is no such invoice"
    private static void promise15NoSuchInvoice() {
        check.refused("payBySum, none made", Check.STATE, x -> { }, x -> x.payBySum(1, 0, 1));
        check.refused("payBySum of one less", Check.STATE, NAMED, x -> x.payBySum(1, 0, 1189));
        check.refused("payBySum of one more", Check.STATE, NAMED, x -> x.payBySum(1, 0, 1191));
        check.refused("payBySum without the tax", Check.STATE, NAMED, x -> x.payBySum(1, 0, 1000));
        check.refused("payBySum from another one", Check.STATE, NAMED, x -> x.payBySum(2, 0, 1190));
        check.refused("payBySum to another one", Check.STATE, NAMED, x -> x.payBySum(1, 2, 1190));
        check.refused("payBySum the other way round", Check.STATE, NAMED, x -> x.payBySum(0, 1, 1190));
        Check.Steps sold = x -> {
            ACCEPTED.on(x);
            x.sell(0, 5, 50, false);
        };
        check.refused("payBySum to the seller of a sold one", Check.STATE, sold, x -> x.payBySum(1, 0, 1190));
        check.refused("payBySum of what was paid for it", Check.STATE, sold, x -> x.payBySum(1, 5, 595));
        check.due("payBySum to its holder", Check.made(sold).payBySum(1, 5, 1190), 0);
        Check.Steps paid = x -> {
            ACCEPTED.on(x);
            x.payBySum(1, 0, 1190);
        };
        check.refused("payBySum twice", Check.STATE, paid, x -> x.payBySum(1, 0, 1190));
        Check.Steps last = x -> {
            for (int i = 0; i < 20; i++) {
                x.send(0, 1, 0, 100 + i, 0);
                x.accept(i);
            }
        };
        check.due("payBySum of the first of 20", Check.made(last).payBySum(1, 0, 100), 0);
        check.due("payBySum of the last of 20", Check.made(last).payBySum(1, 0, 119), 19);
        check.refused("payBySum of no one of 20", Check.STATE, last, x -> x.payBySum(1, 0, 120));
    }

    // "Pays by sum.": the draft, which only a payment by text empties, is as it was
    private static void promise15LeavesTheDraft() {
        Invoicebridge x = Check.made(NAMED);
        x.payBySum(1, 0, 1190);
        check.due("its fault behind payBySum", x.fault(), Invoicebridge.NONE);
        check.due("its length behind payBySum", x.clear(), 2);
    }

    // "if days is out of range": 1 to 60
    private static void promise16Days() {
        for (int days : new int[] {1, 2, 59, 60}) {
            Invoicebridge x = new Invoicebridge();
            check.due("pass " + days, x.pass(days), days / 30);
            check.due("its day", x.day(), days);
        }
        for (int wild : new int[] {Integer.MIN_VALUE, -60, -1, 0, 61, 62, 999, 1000, Integer.MAX_VALUE}) {
            check.refused("pass " + wild, Check.ARGUMENT, NAMED, x -> x.pass(wild));
            check.refused("pass " + wild + " on the last day", Check.ARGUMENT, LAST_DAY, x -> x.pass(wild));
        }
    }

    // "if it would be above the day 999"
    private static void promise16Day999() {
        for (int left = 1; left <= 60; left++) {
            int days = left;
            Check.Steps late = x -> {
                for (int i = 0; i < 15; i++) {
                    x.pass(60);
                }
                x.pass(39);
                x.pass(61 - days);
                // Now the day is 1000 - days.
            };
            check.due("pass to 1000 by " + days, Check.STATE, x -> x.pass(days), Check.made(late));
            if (days > 1) {
                Invoicebridge x = Check.made(late);
                check.due("pass to 999 by " + (days - 1), x.pass(days - 1), 33);
                check.due("the day 999", x.day(), 999);
            }
        }
        for (int days : new int[] {1, 2, 60}) {
            check.refused("pass " + days + " on the last day", Check.STATE, LAST_DAY, x -> x.pass(days));
        }
        check.due("the last day", Check.made(LAST_DAY).day(), 999);
    }

    // "Returns the month then."
    private static void promise16Months() {
        Invoicebridge x = new Invoicebridge();
        for (int month = 0; month <= 15; month++) {
            check.due("pass to the last day of the month " + month, x.pass(29), month);
            check.due("pass to the first day of the next one", x.pass(1), month + 1);
            check.due("the day", x.day(), month * 30 + 30);
        }
    }
}
