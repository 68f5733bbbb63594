/** The boundary cases of the promises 17 to 26; a method a sentence. */
public final class TellingEdgesTest {
    private static final Check check = new Check("TellingEdgesTest");

    private static final Check.Steps TWO = x -> {
        x.send(0, 1, 2, 1000, 19);
        x.addLine(0, 500, 7);
        x.send(1, 2, 2, 3000, 19);
        x.accept(0);
    };
    private static final Check.Steps TWO_LATER = x -> {
        TWO.on(x);
        x.pass(60);
        x.accept(1);
    };
    private static final int[] NO_COMPANIES = {Integer.MIN_VALUE, -1, 6, 7, Integer.MAX_VALUE};

    public static void main(String[] args) {
        promise17Invoice();
        promise17What();
        promise17Answers();
        promise18InvoiceOrLine();
        promise18What();
        promise18Answers();
        promise19To22Companies();
        promise19BelowAndAbove0();
        promise20Documents();
        promise21And22Nothing();
        promise21And22Most();
        promise23And24Companies();
        promise23And24Months();
        promise23Tax0IfCarried();
        promise24AtMost0();
        promise24LongCarried();
        promise25Goods();
        promise25AcceptedOnly();
        promise25LowerNumbersOnly();
        promise25GreatestTax();
        promise25AtLeast0();
        promise25LinesAsTheyAre();
        promise26();
        check.end();
    }

    // "if there is no such invoice"
    private static void promise17Invoice() {
        for (int wild : new int[] {Integer.MIN_VALUE, -1, 2, 3, 19, 20, Integer.MAX_VALUE}) {
            check.refused("about " + wild, Check.INDEX, TWO, x -> x.about(wild, 0));
        }
        for (int what = 0; what <= 9; what++) {
            int asked = what;
            check.due("about, none made", Check.INDEX, x -> x.about(0, asked), new Invoicebridge());
        }
        check.due("about the last", Check.made(TWO).about(1, 1), 1);
    }

    // "if what out of range": 0 to 9
    private static void promise17What() {
        for (int wild : new int[] {Integer.MIN_VALUE, -1, 10, 11, Integer.MAX_VALUE}) {
            check.refused("about what " + wild, Check.ARGUMENT, TWO, x -> x.about(0, wild));
            check.refused("about what " + wild + " of the last", Check.ARGUMENT, TWO, x -> x.about(1, wild));
        }
        check.due("about what 0", Check.made(TWO).about(0, 0), Invoicebridge.ACCEPTED);
        check.due("about what 9", Check.made(TWO).about(0, 9), 225);
    }

    // "0 SENT to REFUSED, 1 its seller, ... 9 the tax of its lines as they are"
    private static void promise17Answers() {
        Invoicebridge x = new Invoicebridge();
        x.pass(7);
        x.send(4, 5, 6, 9999, 19);
        x.addLine(0, 9999, 19);
        x.addLine(0, 9999, 19);
        dueAbout(x, "sent", 0, 4, 5, 4, 35694, 0, 0, 3, 7, 5697);
        x.accept(0);
        dueAbout(x, "accepted", 1, 4, 5, 4, 35694, 35694, 0, 3, 7, 5697);
        x.pass(60);
        x.dispute(0, 2);
        dueAbout(x, "disputed", 1, 4, 5, 4, 35694, 23796, 0, 3, 7, 5697);
        x.sell(0, 0, 100, true);
        dueAbout(x, "sold", 1, 4, 5, 0, 35694, 23796, 0, 3, 7, 5697);
        x.payBySum(5, 0, 23796);
        dueAbout(x, "paid", 1, 4, 5, 0, 35694, 0, 23796, 3, 7, 5697);
        x.settle(0, 2, false);
        dueAbout(x, "settled", 1, 4, 5, 0, 35694, 11898, 23796, 3, 7, 5697);
        x.giveBack(0);
        dueAbout(x, "given back", 1, 4, 5, 4, 35694, 11898, 23796, 3, 7, 5697);
        x.credit(0, 0, 9999);
        dueAbout(x, "credited", 1, 4, 5, 4, 23796, 0, 23796, 3, 7, 3798);
        x.send(5, 4, 0, 1, 19);
        x.refuse(1);
        check.due("refused", x.about(1, 0), Invoicebridge.REFUSED);
        check.due("refused, its cost", x.about(1, 4), 1);
        check.due("refused, its day", x.about(1, 8), 67);
    }

    private static void dueAbout(Invoicebridge x, String when, int... due) {
        for (int what = 0; what <= 9; what++) {
            check.due(when + ", about " + what, x.about(0, what), due[what]);
        }
    }

    // "if there is no such invoice, or line of it"
    private static void promise18InvoiceOrLine() {
        for (int wild : new int[] {Integer.MIN_VALUE, -1, 2, 19, 20, Integer.MAX_VALUE}) {
            check.refused("lineOf invoice " + wild, Check.INDEX, TWO, x -> x.lineOf(wild, 0, 0));
        }
        for (int wild : new int[] {Integer.MIN_VALUE, -1, 2, 3, Integer.MAX_VALUE}) {
            check.refused("lineOf line " + wild + " of 2", Check.INDEX, TWO, x -> x.lineOf(0, wild, 0));
        }
        check.due("lineOf line 1 of 2", Check.made(TWO).lineOf(0, 1, 0), 500);
        check.refused("lineOf line 1 of 1", Check.INDEX, TWO, x -> x.lineOf(1, 1, 0));
        check.due("lineOf, none made", Check.INDEX, x -> x.lineOf(0, 0, 0), new Invoicebridge());
        Invoicebridge three = new Invoicebridge();
        three.send(0, 1, 0, 10, 0);
        three.addLine(0, 20, 0);
        three.addLine(0, 30, 0);
        check.due("lineOf line 2 of 3", three.lineOf(0, 2, 0), 30);
        check.due("lineOf line 3 of 3", Check.INDEX, x -> x.lineOf(0, 3, 0), three);
    }

    // "if what out of range": 0 to 4
    private static void promise18What() {
        for (int wild : new int[] {Integer.MIN_VALUE, -1, 5, 6, Integer.MAX_VALUE}) {
            check.refused("lineOf what " + wild, Check.ARGUMENT, TWO, x -> x.lineOf(0, 1, wild));
        }
        check.due("lineOf what 0", Check.made(TWO).lineOf(0, 1, 0), 500);
        check.due("lineOf what 4", Check.made(TWO).lineOf(0, 1, 4), 500);
    }

    // "0 its amount, 1 its rate, 2 its tax, 3 whether it is disputed, 1 or 0, 4 its amount as it was made"
    private static void promise18Answers() {
        Invoicebridge x = Check.made(TWO);
        dueLine(x, "made", 500, 7, 35, 0, 500);
        x.dispute(0, 1);
        dueLine(x, "disputed", 500, 7, 35, 1, 500);
        x.credit(0, 1, 499);
        dueLine(x, "credited", 1, 7, 0, 1, 500);
        x.settle(0, 1, true);
        dueLine(x, "settled", 0, 7, 0, 0, 500);
        check.due("the other line", x.lineOf(0, 0, 0), 1000);
        check.due("the other line's dispute", x.lineOf(0, 0, 3), 0);
    }

    private static void dueLine(Invoicebridge x, String when, int... due) {
        for (int what = 0; what <= 4; what++) {
            check.due(when + ", lineOf " + what, x.lineOf(0, 1, what), due[what]);
        }
    }

    // "if there is no such company"
    private static void promise19To22Companies() {
        for (int wild : NO_COMPANIES) {
            check.refused("cash " + wild, Check.INDEX, TWO, x -> x.cash(wild));
            check.refused("cashAnew " + wild, Check.INDEX, TWO, x -> x.cashAnew(wild));
            check.refused("owedTo " + wild, Check.INDEX, TWO, x -> x.owedTo(wild));
            check.refused("owes " + wild, Check.INDEX, TWO, x -> x.owes(wild));
            check.due("cash, none made", Check.INDEX, x -> x.cash(wild), new Invoicebridge());
            check.due("cashAnew, none made", Check.INDEX, x -> x.cashAnew(wild), new Invoicebridge());
            check.due("owedTo, none made", Check.INDEX, x -> x.owedTo(wild), new Invoicebridge());
            check.due("owes, none made", Check.INDEX, x -> x.owes(wild), new Invoicebridge());
        }
        // Each company pays the next one another sum.
        Invoicebridge x = new Invoicebridge();
        for (int company = 0; company < 6; company++) {
            int cents = 1 << company;
            x.send((company + 1) % 6, company, 0, cents, 0);
            x.accept(company);
            check.due("owes " + company, x.owes(company), cents);
            check.due("owedTo the next of " + company, x.owedTo((company + 1) % 6), cents);
            x.payBySum(company, (company + 1) % 6, cents);
        }
        int[] due = {31, -1, -2, -4, -8, -16};
        for (int company = 0; company < 6; company++) {
            check.due("cash " + company, x.cash(company), due[company]);
            check.due("cashAnew " + company, x.cashAnew(company), due[company]);
        }
    }

    // "Returns the cash, perhaps below 0."
    private static void promise19BelowAndAbove0() {
        Invoicebridge x = Check.made(TWO);
        check.due("cash of what is sent and accepted", x.cash(0), 0);
        Check.typeAll(x, "R0");
        x.payByText(1, 0, 1);
        check.due("cash below 0", x.cash(1), -1);
        check.due("cash above 0", x.cash(0), 1);
        x.credit(0, 0, 1000);
        check.due("credits are no matter", x.cash(1), -1);
        x.sell(0, 1 + 2, 50, true);
        check.due("of a sale", x.cash(3), -267);
        check.due("the seller's", x.cash(0), 268);
        x.giveBack(0);
        check.due("of recourse", x.cash(3), 0);
        check.due("the seller's again", x.cash(0), 1);
        x.pass(60);
        check.due("taxes are not paid here", x.cash(0), 1);
    }

    // "found anew from all documents of payments, sales and recourse, one by one"
    private static void promise20Documents() {
        Invoicebridge x = new Invoicebridge();
        check.due("of no documents", x.cashAnew(0), 0);
        x.send(0, 1, 0, 9999, 0);
        x.accept(0);
        Check.typeAll(x, "R0");
        x.payByText(1, 0, 9);
        check.due("by text", x.cashAnew(1), -9);
        x.sell(0, 2, 10, true);
        check.due("of a sale", x.cashAnew(2), -999);
        check.due("to the seller", x.cashAnew(0), 1008);
        x.giveBack(0);
        check.due("of recourse", x.cashAnew(2), 0);
        x.payBySum(1, 0, 9990);
        check.due("by sum", x.cashAnew(1), -9999);
        check.due("all of them", x.cashAnew(0), 9999);
        check.due("of none of them", x.cashAnew(5), 0);
        for (int company = 0; company < 6; company++) {
            check.due("the same", x.cashAnew(company), x.cash(company));
        }
    }

    // what is owed of what is not made, sent, refused, paid or disputed
    private static void promise21And22Nothing() {
        Invoicebridge x = new Invoicebridge();
        dueOwed(x, "none made", 0);
        x.send(0, 1, 0, 100, 0);
        dueOwed(x, "sent", 0);
        x.send(0, 1, 0, 200, 0);
        x.refuse(1);
        dueOwed(x, "refused", 0);
        x.accept(0);
        dueOwed(x, "accepted", 100);
        x.dispute(0, 0);
        dueOwed(x, "disputed", 0);
        x.settle(0, 0, false);
        x.credit(0, 0, 99);
        dueOwed(x, "credited", 1);
        x.payBySum(1, 0, 1);
        dueOwed(x, "paid", 0);
        check.due("to the buyer", x.owedTo(1), 0);
        check.due("by the seller", x.owes(0), 0);
    }

    private static void dueOwed(Invoicebridge x, String when, int due) {
        check.due(when + ", owedTo", x.owedTo(0), due);
        check.due(when + ", owes", x.owes(1), due);
    }

    // "by all invoices that it holds": of all 20, with the greatest amounts
    private static void promise21And22Most() {
        Invoicebridge x = new Invoicebridge();
        for (int i = 0; i < 20; i++) {
            x.send(i < 10 ? 0 : 2, 1, 0, 9999, 19);
            x.addLine(i, 9999, 19);
            x.addLine(i, 9999, 19);
            x.accept(i);
        }
        check.due("owes", x.owes(1), 713880);
        check.due("owedTo the first", x.owedTo(0), 356940);
        check.due("owedTo the other", x.owedTo(2), 356940);
        x.sell(0, 2, 100, false);
        x.sell(19, 0, 1, true);
        x.sell(18, 3, 1, true);
        check.due("what it holds, not what it sold", x.owedTo(0), 356940);
        check.due("nor the other", x.owedTo(2), 356940 - 35694);
        check.due("but who bought it", x.owedTo(3), 35694);
        check.due("owes as before", x.owes(1), 713880);
        check.due("holders owe nothing", x.owes(3), 0);
    }

    // "if there is no such company"
    private static void promise23And24Companies() {
        for (int wild : NO_COMPANIES) {
            check.refused("tax of " + wild, Check.INDEX, TWO_LATER, x -> x.tax(wild, 2));
            check.refused("carried of " + wild, Check.INDEX, TWO_LATER, x -> x.carried(wild, 2));
            check.due("tax, none made", Check.INDEX, x -> x.tax(wild, 0), new Invoicebridge());
            check.due("carried, none made", Check.INDEX, x -> x.carried(wild, 0), new Invoicebridge());
        }
        Invoicebridge x = new Invoicebridge();
        x.send(5, 0, 0, 100, 19);
        x.accept(0);
        check.due("tax of 5", x.tax(5, 0), 19);
        check.due("carried of 0", x.carried(0, 0), -19);
    }

    // "or month": 0 to that of now
    private static void promise23And24Months() {
        for (int wild : new int[] {Integer.MIN_VALUE, -1, 3, 4, 33, 34, Integer.MAX_VALUE}) {
            check.refused("tax for " + wild, Check.INDEX, TWO_LATER, x -> x.tax(1, wild));
            check.refused("carried for " + wild, Check.INDEX, TWO_LATER, x -> x.carried(1, wild));
        }
        check.due("tax for 0", Check.made(TWO_LATER).tax(1, 0), 570 - 225);
        check.due("carried for that of now", Check.made(TWO_LATER).carried(2, 2), -570);
        Invoicebridge fresh = new Invoicebridge();
        check.due("tax for 0, none made", fresh.tax(0, 0), 0);
        check.due("tax for 1, none made", Check.INDEX, x -> x.tax(0, 1), fresh);
        check.due("carried for 1, none made", Check.INDEX, x -> x.carried(0, 1), fresh);
        fresh.pass(29);
        check.due("tax for 1 on the day 29", Check.INDEX, x -> x.tax(0, 1), fresh);
        check.due("carried for 1 on the day 29", Check.INDEX, x -> x.carried(0, 1), fresh);
        fresh.pass(1);
        check.due("tax for 1 on the day 30", fresh.tax(0, 1), 0);
        check.due("carried for 1 on the day 30", fresh.carried(0, 1), 0);
        check.due("tax for 2 on the day 30", Check.INDEX, x -> x.tax(0, 2), fresh);
        Invoicebridge last = onLastDay(TWO);
        check.due("carried for 33", last.carried(1, 33), 0);
        check.due("tax for 33", last.tax(1, 33), 0);
        check.due("tax for 34", Check.INDEX, x -> x.tax(1, 34), last);
        check.due("carried for 34", Check.INDEX, x -> x.carried(1, 34), last);
    }

    private static Invoicebridge onLastDay(Check.Steps ahead) {
        Invoicebridge x = Check.made(ahead);
        while (x.day() < 999) {
            x.pass(Math.min(60, 999 - x.day()));
        }
        return x;
    }

    // "Returns the tax, 0 if it is carried."
    private static void promise23Tax0IfCarried() {
        int[] amounts = {99, 100, 105, 106, 9999};
        int[] due = {0, 0, 0, 1, 1899 - 19};
        for (int i = 0; i < amounts.length; i++) {
            Invoicebridge x = new Invoicebridge();
            x.send(0, 1, 0, 100, 19);
            x.accept(0);
            x.pass(30);
            x.send(1, 2, 0, amounts[i], 19);
            check.due("tax of the month 0", x.tax(1, 0), 0);
            check.due("tax with " + amounts[i], x.tax(1, 1), due[i]);
        }
    }

    // "Returns how much, at most 0."
    private static void promise24AtMost0() {
        int[] amounts = {99, 100, 105, 106, 9999};
        int[] carried = {-1, 0, 0, 0, 0};
        for (int i = 0; i < amounts.length; i++) {
            Invoicebridge x = new Invoicebridge();
            x.send(0, 1, 0, 100, 19);
            x.accept(0);
            x.pass(30);
            x.send(1, 2, 0, amounts[i], 19);
            check.due("carried from the month 0", x.carried(1, 0), -19);
            check.due("carried with " + amounts[i], x.carried(1, 1), carried[i]);
            check.due("carried by the seller", x.carried(0, 0), 0);
            check.due("carried by who has none", x.carried(5, 1), 0);
        }
    }

    // what is carried goes through all months, and what is due through none
    private static void promise24LongCarried() {
        Invoicebridge x = onLastDay(TWO_LATER);
        for (int month = 0; month <= 33; month++) {
            check.due("carried from " + month, x.carried(2, month), month < 2 ? 0 : -570);
            check.due("tax for " + month, x.tax(2, month), 0);
            check.due("due of the other for " + month, x.tax(1, month), month == 0 ? 345 : 0);
        }
        x.send(2, 3, 0, 9999, 19);
        check.due("due in the last month", x.tax(2, 33), 1899 - 570);
        check.due("nothing is left", x.carried(2, 33), 0);
        check.due("the month before is as it was", x.carried(2, 32), -570);
    }

    // "if there is no such goods"
    private static void promise25Goods() {
        for (int wild : new int[] {Integer.MIN_VALUE, -1, 8, 9, Integer.MAX_VALUE}) {
            check.refused("chain " + wild, Check.INDEX, TWO, x -> x.chain(wild));
            check.due("chain, none made", Check.INDEX, x -> x.chain(wild), new Invoicebridge());
        }
        check.due("chain 0, none made", new Invoicebridge().chain(0), 0);
        check.due("chain 7, none made", new Invoicebridge().chain(7), 0);
    }

    // "over all ACCEPTED invoices of some goods"
    private static void promise25AcceptedOnly() {
        Invoicebridge x = new Invoicebridge();
        x.send(0, 1, 7, 1000, 19);
        x.send(1, 2, 7, 3000, 19);
        check.due("of two sent ones", x.chain(7), 0);
        x.accept(1);
        check.due("a sent one is no link", x.chain(7), 570);
        x.accept(0);
        check.due("of two accepted ones", x.chain(7), 190 + 380);
        x.send(1, 3, 7, 100, 19);
        x.refuse(2);
        check.due("without the refused one", x.chain(7), 570);
        x.send(2, 4, 6, 5000, 19);
        x.accept(3);
        check.due("without other goods", x.chain(7), 570);
        check.due("the other goods have no chain", x.chain(6), 950);
    }

    // "of the ACCEPTED ones of the same goods with lower numbers whose buyer is its seller"
    private static void promise25LowerNumbersOnly() {
        Invoicebridge x = new Invoicebridge();
        x.send(1, 2, 0, 3000, 19);
        x.send(0, 1, 0, 1000, 19);
        x.accept(1);
        x.accept(0);
        check.due("with a higher number", x.chain(0), 570 + 190);
        x.send(3, 1, 0, 100, 19);
        x.accept(2);
        check.due("of the same buyer", x.chain(0), 570 + 190 + 19);
        x.send(1, 0, 0, 200, 19);
        x.accept(3);
        check.due("back to the first seller", x.chain(0), 570 + 190 + 19 + 0);
        x.send(1, 4, 0, 1001, 19);
        x.accept(4);
        check.due("of the same tax", x.chain(0), 779);
        x.send(1, 4, 0, 1010, 19);
        x.accept(5);
        check.due("of 1 more", x.chain(0), 780);
    }

    // "less the greatest tax ..., 0 without such"
    private static void promise25GreatestTax() {
        Invoicebridge x = new Invoicebridge();
        int[] amounts = {300, 500, 400};
        for (int i = 0; i < 3; i++) {
            x.send(i, 3, 1, amounts[i], 19);
            x.accept(i);
        }
        check.due("without such", x.chain(1), 57 + 95 + 76);
        x.send(3, 4, 1, 1000, 19);
        x.accept(3);
        check.due("the greatest, which is neither first nor last", x.chain(1), 228 + 190 - 95);
        x.credit(1, 0, 500);
        check.due("then the next one", x.chain(1), 133 + 190 - 76);
    }

    // "at least 0 for each"
    private static void promise25AtLeast0() {
        int[] amounts = {99, 100, 105, 106, 50};
        int[] due = {0, 0, 0, 1, 0};
        for (int i = 0; i < amounts.length; i++) {
            Invoicebridge x = new Invoicebridge();
            x.send(0, 1, 0, 100, 19);
            x.send(1, 2, 0, amounts[i], 19);
            x.accept(0);
            x.accept(1);
            check.due("chain with " + amounts[i], x.chain(0), 19 + due[i]);
        }
    }

    // "the tax of each, by its lines as they are"
    private static void promise25LinesAsTheyAre() {
        Invoicebridge x = new Invoicebridge();
        x.send(0, 1, 0, 100, 19);
        x.addLine(0, 100, 7);
        x.send(1, 2, 0, 1000, 19);
        x.accept(0);
        x.accept(1);
        check.due("all lines", x.chain(0), 26 + 190 - 26);
        x.credit(0, 0, 100);
        x.credit(1, 0, 990);
        check.due("with credits, below 0 is 0", x.chain(0), 7);
        x.credit(0, 1, 99);
        check.due("with credits", x.chain(0), 1);
        x.dispute(1, 0);
        check.due("with a dispute", x.chain(0), 1);
    }

    // "Returns the day."
    private static void promise26() {
        check.due("the first day", new Invoicebridge().day(), 0);
        Invoicebridge x = onLastDay(TWO);
        check.due("the last day", x.day(), 999);
        check.due("no day more", Check.STATE, y -> y.pass(1), x);
        check.due("the last day still", x.day(), 999);
    }
}
