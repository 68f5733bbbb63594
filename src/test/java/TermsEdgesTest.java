/** The boundary cases that the document's section "Terms" names; a method a sentence. */
public final class TermsEdgesTest {
    private static final Check check = new Check("TermsEdgesTest");

    private static final Check.Steps ONE_SENT = x -> x.send(0, 1, 2, 1000, 19);
    private static final Check.Steps ONE_ACCEPTED = x -> {
        ONE_SENT.on(x);
        x.addLine(0, 500, 7);
        x.accept(0);
    };

    public static void main(String[] args) {
        daysFrom0();
        monthsOf30Days();
        companiesAndGoods();
        upTo3Lines();
        taxRoundedDown();
        taxByLines();
        invoicesFrom0();
        linesOnTheDay();
        linesNeitherAcceptedNorRefused();
        linesWithoutCredit();
        creditMakesLess();
        atMost24Credits();
        settledForTheBuyer();
        settledOtherwise();
        disputedStaysDisputed();
        costIsOfLinesAsTheyAre();
        owedAtLeast0();
        owedOfOthersIs0();
        holderIsSellerAtFirst();
        soldRoundedDown();
        givenBackAndSoldAgain();
        draftInitiallyEmpty();
        textsOfTheDraft();
        paymentAtMostOwed();
        paymentOfJustTheSum();
        taxWithoutRefused();
        taxOfAcceptance();
        taxOfCreditsNow();
        taxOf0();
        taxIntoMonth0();
        taxAsTheyWereMade();
        callsUpTo512();
        check.end();
    }

    // "Days are numbered from 0"
    private static void daysFrom0() {
        Invoicebridge x = new Invoicebridge();
        x.send(0, 1, 0, 10, 0);
        check.due("the first day", x.about(0, 8), 0);
        x.pass(1);
        x.send(0, 1, 0, 10, 0);
        check.due("the second day", x.about(1, 8), 1);
        check.due("the first invoice's day stays", x.about(0, 8), 0);
    }

    // "a month has 30 of them, the first one is 0"
    private static void monthsOf30Days() {
        for (int month = 0; month <= 33; month++) {
            Invoicebridge first = onDay(month * 30);
            check.due("the first day of the month " + month, first.tax(2, month), 0);
            check.due("no later one then", Check.INDEX, y -> y.tax(2, first.day() / 30 + 1), first);
            Invoicebridge last = onDay(Math.min(month * 30 + 29, 999));
            check.due("the last day of the month " + month, last.tax(2, month), 0);
            check.due("no later one on its last day", Check.INDEX, y -> y.tax(2, last.day() / 30 + 1), last);
        }
        Invoicebridge x = onDay(29);
        x.send(0, 1, 0, 100, 19);
        x.accept(0);
        x.pass(1);
        x.send(2, 3, 0, 100, 19);
        x.accept(1);
        check.due("sent on the day 29", x.tax(0, 0), 19);
        check.due("not in the month 1", x.tax(0, 1), 0);
        check.due("accepted on the day 29", x.carried(1, 0), -19);
        check.due("sent on the day 30", x.tax(2, 1), 19);
        check.due("not in the month 0", x.tax(2, 0), 0);
        check.due("accepted on the day 30", x.carried(3, 1), -19);
        check.due("not in the month 0", x.carried(3, 0), 0);
    }

    private static Invoicebridge onDay(int day) {
        Invoicebridge x = new Invoicebridge();
        while (x.day() < day) {
            x.pass(Math.min(60, day - x.day()));
        }
        return x;
    }

    // "There are the companies 0 to 5 and the goods 0 to 7."
    private static void companiesAndGoods() {
        for (int company = 0; company <= 5; company++) {
            Invoicebridge x = new Invoicebridge();
            int other = (company + 1) % 6;
            check.due("a seller " + company, x.send(company, other, 0, 10, 0), 0);
            check.due("a buyer " + company, x.send(other, company, 0, 20, 0), 1);
            x.accept(0);
            check.due("it pays and gets", x.payBySum(other, company, 10), 0);
            check.due("its cash", x.cash(company), 10);
            check.due("anew", x.cashAnew(other), -10);
        }
        for (int goods = 0; goods <= 7; goods++) {
            Invoicebridge x = new Invoicebridge();
            x.send(0, 1, goods, 100, 19);
            x.accept(0);
            for (int asked = 0; asked <= 7; asked++) {
                check.due("the chain " + asked + " with goods " + goods, x.chain(asked), asked == goods ? 19 : 0);
            }
        }
    }

    // "has up to 3 lines"
    private static void upTo3Lines() {
        Invoicebridge x = new Invoicebridge();
        x.send(0, 1, 0, 10, 0);
        check.due("1 line", x.about(0, 7), 1);
        x.addLine(0, 20, 0);
        check.due("2 lines", x.about(0, 7), 2);
        x.addLine(0, 30, 0);
        check.due("3 lines", x.about(0, 7), 3);
        check.due("not 4", Check.STATE, y -> y.addLine(0, 40, 0), x);
        check.due("3 lines still", x.about(0, 7), 3);
        check.due("the first", x.lineOf(0, 0, 0), 10);
        check.due("the third", x.lineOf(0, 2, 0), 30);
    }

    // "the tax of an amount is that many hundredths of it, rounded down"
    private static void taxRoundedDown() {
        int[] sevens = {1, 14, 15, 28, 29, 99, 100, 101, 114, 115, 9999};
        int[] taxOf7 = {0, 0, 1, 1, 2, 6, 7, 7, 7, 8, 699};
        for (int i = 0; i < sevens.length; i++) {
            check.due("7 hundredths of " + sevens[i], taxOf(sevens[i], 7), taxOf7[i]);
        }
        int[] nineteens = {1, 5, 6, 10, 11, 99, 100, 101, 105, 106, 9999};
        int[] taxOf19 = {0, 0, 1, 1, 2, 18, 19, 19, 19, 20, 1899};
        for (int i = 0; i < nineteens.length; i++) {
            check.due("19 hundredths of " + nineteens[i], taxOf(nineteens[i], 19), taxOf19[i]);
        }
        check.due("0 hundredths of 1", taxOf(1, 0), 0);
        check.due("0 hundredths of 9999", taxOf(9999, 0), 0);
    }

    private static int taxOf(int amount, int rate) {
        Invoicebridge x = new Invoicebridge();
        x.send(0, 1, 0, amount, rate);
        check.due("the same of the invoice", x.about(0, 9), x.lineOf(0, 0, 2));
        check.due("and of its seller", x.tax(0, 0), x.lineOf(0, 0, 2));
        check.due("and in what it costs", x.about(0, 4), amount + x.lineOf(0, 0, 2));
        return x.lineOf(0, 0, 2);
    }

    // "What an invoice costs are the amounts of its lines as they are, each with its tax."
    private static void taxByLines() {
        Invoicebridge x = new Invoicebridge();
        x.send(0, 1, 0, 5, 19);
        x.addLine(0, 5, 19);
        x.addLine(0, 14, 7);
        check.due("each rounded down for itself", x.about(0, 9), 0);
        check.due("the cost of it", x.about(0, 4), 24);
        check.due("the seller's tax", x.tax(0, 0), 0);
        x.accept(0);
        check.due("the buyer's tax", x.carried(1, 0), 0);
        check.due("the chain's tax", x.chain(0), 0);
        check.due("owed", x.about(0, 5), 24);
    }

    // "Invoices are numbered from 0, at most 20."
    private static void invoicesFrom0() {
        Invoicebridge x = new Invoicebridge();
        for (int i = 0; i < 20; i++) {
            int next = i;
            check.due("not there yet: " + i, Check.INDEX, y -> y.about(next, 0), x);
            check.due("number " + i, x.send(1, 0, 0, 1, 0), i);
            check.due("it is there", x.about(i, 7), 1);
            x.accept(i);
        }
        check.due("all of 20", x.owes(0), 20);
        check.due("no number 20", Check.INDEX, y -> y.about(20, 0), x);
        check.due("no invoice more", Check.STATE, y -> y.send(1, 0, 0, 1, 0), x);
        check.due("no number 20 then either", Check.INDEX, y -> y.about(20, 0), x);
    }

    // "lines are added to it on the day on which it is SENT"
    private static void linesOnTheDay() {
        Invoicebridge x = onDay(29);
        x.send(0, 1, 0, 10, 0);
        check.due("on the same day", x.addLine(0, 10, 0), 1);
        x.pass(1);
        check.due("not a day later", Check.STATE, y -> y.addLine(0, 10, 0), x);
        x.send(0, 1, 0, 10, 0);
        check.due("one of today", x.addLine(1, 10, 0), 1);
        check.due("not to the earlier one still", Check.STATE, y -> y.addLine(0, 10, 0), x);
        x.pass(60);
        check.due("nor two months later", Check.STATE, y -> y.addLine(1, 10, 0), x);
        Invoicebridge last = onDay(999);
        last.send(0, 1, 0, 10, 0);
        check.due("on the last day", last.addLine(0, 10, 0), 1);
    }

    // "as long as it is neither accepted nor refused"
    private static void linesNeitherAcceptedNorRefused() {
        Invoicebridge x = new Invoicebridge();
        for (int i = 0; i < 3; i++) {
            x.send(0, 1, 0, 10, 0);
        }
        x.accept(0);
        x.refuse(1);
        check.due("not accepted", Check.STATE, y -> y.addLine(0, 10, 0), x);
        check.due("not refused", Check.STATE, y -> y.addLine(1, 10, 0), x);
        check.due("but sent", x.addLine(2, 10, 0), 1);
    }

    // "nor has a credit"
    private static void linesWithoutCredit() {
        Invoicebridge x = new Invoicebridge();
        x.send(0, 1, 0, 10, 0);
        x.send(0, 1, 0, 10, 0);
        x.addLine(0, 10, 0);
        check.due("a refused credit", Check.ARGUMENT, y -> y.credit(0, 0, 11), x);
        check.due("is none", x.addLine(0, 10, 0), 2);
        x.credit(1, 0, 1);
        check.due("a credit of 1", Check.STATE, y -> y.addLine(1, 10, 0), x);
    }

    // "A credit makes the amount of a line less"
    private static void creditMakesLess() {
        Invoicebridge x = Check.made(ONE_ACCEPTED);
        check.due("by 1", x.credit(0, 0, 1), 999);
        check.due("to 1", x.credit(0, 0, 998), 1);
        check.due("to 0", x.credit(0, 0, 1), 0);
        check.due("not below 0", Check.ARGUMENT, y -> y.credit(0, 0, 1), x);
        check.due("it is 0 still", x.lineOf(0, 0, 0), 0);
        check.due("the other line is as it was", x.lineOf(0, 1, 0), 500);
        check.due("tax of 0", x.lineOf(0, 0, 2), 0);
    }

    // "at most 24 are made": of all invoices together, those of settled disputes with them
    private static void atMost24Credits() {
        Check.Steps all = x -> {
            for (int i = 0; i < 12; i++) {
                x.send(0, 1, 0, 100, 0);
                x.credit(i, 0, 1);
                x.accept(i);
                x.dispute(i, 0);
                x.settle(i, 0, true);
            }
            x.send(0, 1, 0, 100, 0);
        };
        check.due("a 25th", Check.STATE, y -> y.credit(12, 0, 1), Check.made(all));
        Check.Steps oneLess = x -> {
            for (int i = 0; i < 20; i++) {
                x.send(0, 1, 0, 100, 0);
                x.credit(i, 0, 1);
            }
            x.refuse(0);
            x.credit(1, 0, 1);
            x.credit(1, 0, 1);
            x.credit(19, 0, 1);
        };
        Invoicebridge x = Check.made(oneLess);
        check.due("the 24th", x.credit(18, 0, 1), 98);
        for (int i = 1; i < 20; i++) {
            int invoice = i;
            check.due("the 25th of " + i, Check.STATE, y -> y.credit(invoice, 0, 1), x);
        }
    }

    // "if the buyer was right, a credit of the whole amount that the line has then is made, also of 0"
    private static void settledForTheBuyer() {
        Invoicebridge x = Check.made(ONE_ACCEPTED);
        x.dispute(0, 0);
        x.credit(0, 0, 300);
        check.due("owed", x.settle(0, 0, true), 535);
        check.due("the whole amount that it has then", x.lineOf(0, 0, 0), 0);
        check.due("the seller's tax", x.tax(0, 0), 35);
        check.due("the buyer's tax", x.carried(1, 0), -35);
        x.dispute(0, 1);
        x.credit(0, 1, 500);
        check.due("of 0", x.settle(0, 1, true), 0);
        check.due("0 still", x.lineOf(0, 1, 0), 0);
        check.due("and not disputed", x.lineOf(0, 1, 3), 0);
        // Four credits were made so far, that of 0 with them.
        x.send(0, 1, 0, 100, 0);
        for (int i = 5; i <= 24; i++) {
            x.credit(1, 0, 1);
        }
        check.due("that of 0 counts", Check.STATE, y -> y.credit(1, 0, 1), x);
    }

    // "otherwise nothing changes"
    private static void settledOtherwise() {
        Invoicebridge x = Check.made(ONE_ACCEPTED);
        x.dispute(0, 0);
        check.due("all is owed again", x.settle(0, 0, false), 1725);
        check.due("its amount", x.lineOf(0, 0, 0), 1000);
        check.due("the dispute is over", x.lineOf(0, 0, 3), 0);
        check.due("the seller's tax", x.tax(0, 0), 225);
        for (int i = 1; i <= 24; i++) {
            check.due("no credit was made, " + i, x.credit(0, 0, 1), 1000 - i);
        }
    }

    // "A disputed line can get credits, and stays disputed."
    private static void disputedStaysDisputed() {
        Invoicebridge x = Check.made(ONE_ACCEPTED);
        x.dispute(0, 1);
        check.due("a credit", x.credit(0, 1, 499), 1);
        check.due("disputed", x.lineOf(0, 1, 3), 1);
        check.due("a credit down to 0", x.credit(0, 1, 1), 0);
        check.due("disputed with 0", x.lineOf(0, 1, 3), 1);
        check.due("not to be disputed again", Check.STATE, y -> y.dispute(0, 1), x);
        x.settle(0, 1, false);
        check.due("with 0 nor behind it", Check.STATE, y -> y.dispute(0, 1), x);
    }

    // "What an invoice costs": disputes, payments and states are no matter
    private static void costIsOfLinesAsTheyAre() {
        Invoicebridge x = Check.made(ONE_ACCEPTED);
        check.due("at first", x.about(0, 4), 1725);
        x.dispute(0, 0);
        check.due("disputed", x.about(0, 4), 1725);
        x.payBySum(1, 0, 535);
        check.due("paid", x.about(0, 4), 1725);
        x.credit(0, 0, 1000);
        x.credit(0, 1, 499);
        check.due("1 left", x.about(0, 4), 1);
        x.credit(0, 1, 1);
        check.due("0 left", x.about(0, 4), 0);
    }

    // "What is owed of an ACCEPTED one is ..., less what was paid, at least 0"
    private static void owedAtLeast0() {
        Invoicebridge x = Check.made(ONE_ACCEPTED);
        Check.typeAll(x, "R0");
        x.payByText(1, 0, 1724);
        check.due("1 is owed", x.about(0, 5), 1);
        check.due("below 0 if it were less by 2", x.credit(0, 1, 2), 498);
        check.due("0 is owed", x.about(0, 5), 0);
        check.due("to nobody", x.owedTo(0), 0);
        check.due("by nobody", x.owes(1), 0);
        check.due("a dispute goes on from 0", x.dispute(0, 0), 0);
        check.due("and back to 0", x.settle(0, 0, false), 0);
        check.due("what was paid stays", x.about(0, 6), 1724);
    }

    // "of others it is 0"
    private static void owedOfOthersIs0() {
        Invoicebridge x = new Invoicebridge();
        x.send(0, 1, 0, 10, 0);
        x.send(0, 1, 0, 20, 0);
        x.refuse(1);
        check.due("of a sent one", x.about(0, 5), 0);
        check.due("of a refused one", x.about(1, 5), 0);
        check.due("to the seller", x.owedTo(0), 0);
        check.due("by the buyer", x.owes(1), 0);
        check.due("by sum, sent", Check.STATE, y -> y.payBySum(1, 0, 10), x);
        check.due("by sum, refused", Check.STATE, y -> y.payBySum(1, 0, 20), x);
    }

    // "An invoice is owed to its holder, the seller at first."
    private static void holderIsSellerAtFirst() {
        Invoicebridge x = new Invoicebridge();
        x.send(5, 1, 0, 10, 0);
        x.send(0, 5, 0, 20, 0);
        check.due("of the first", x.about(0, 3), 5);
        check.due("of the second", x.about(1, 3), 0);
        x.refuse(0);
        check.due("of a refused one", x.about(0, 3), 5);
        x.accept(1);
        check.due("owed to the seller", x.owedTo(0), 20);
        x.sell(1, 3, 50, false);
        check.due("owed to the holder", x.owedTo(3), 20);
        check.due("no more to the seller", x.owedTo(0), 0);
    }

    // "that pays some hundredths of what is owed, rounded down, to the seller"
    private static void soldRoundedDown() {
        int[][] rows = {{99, 1, 0}, {100, 1, 1}, {199, 1, 1}, {200, 1, 2}, {1, 99, 0}, {1, 100, 1},
            {101, 99, 99}, {9999, 99, 9899}, {9999, 100, 9999}, {3, 34, 1}, {3, 33, 0}};
        for (int[] row : rows) {
            Invoicebridge x = new Invoicebridge();
            x.send(0, 1, 0, row[0], 0);
            x.accept(0);
            check.due(row[1] + " hundredths of " + row[0], x.sell(0, 2, row[1], true), row[2]);
            check.due("to the seller", x.cash(0), row[2]);
            check.due("from who buys it", x.cash(2), -row[2]);
            check.due("owed as before", x.about(0, 5), row[0]);
        }
    }

    // "the seller pays back what was paid for it, and is the holder again; it can be sold again"
    private static void givenBackAndSoldAgain() {
        Invoicebridge x = new Invoicebridge();
        x.send(0, 1, 0, 200, 0);
        x.accept(0);
        int[] parts = {1, 100, 50, 2};
        int[] paid = {2, 200, 100, 4};
        for (int i = 0; i < parts.length; i++) {
            check.due("sold " + i, x.sell(0, 2 + i, parts[i], true), paid[i]);
            check.due("its holder", x.about(0, 3), 2 + i);
            check.due("given back " + i, x.giveBack(0), paid[i]);
            check.due("its holder again", x.about(0, 3), 0);
        }
        check.due("the seller's cash", x.cash(0), 0);
    }

    // "There is a draft of at most 10 signs, initially empty."
    private static void draftInitiallyEmpty() {
        Invoicebridge x = new Invoicebridge();
        check.due("its fault", x.fault(), 0);
        check.due("its length", x.clear(), 0);
        for (int i = 1; i <= 10; i++) {
            check.due("sign " + i, x.type('0'), i);
        }
        check.due("sign 11", Check.STATE, y -> y.type('0'), x);
        check.due("10 signs", x.clear(), 10);
        check.due("it can be filled again", x.type('0'), 1);
    }

    // "the index of the first sign with which no such text goes on, or its length, if it could not
    // end there, also if it is empty"
    private static void textsOfTheDraft() {
        for (int sign = 32; sign <= 126; sign++) {
            boolean isDigit = '0' <= sign && sign <= '9';
            String put = String.valueOf((char) sign);
            check.due("fault of " + sign, faultOf(put), sign == 'R' ? 1 : 0);
            check.due("fault behind R of " + sign, faultOf("R" + put), isDigit ? Invoicebridge.NONE : 1);
            check.due("fault behind R1 of " + sign, faultOf("R1" + put), isDigit ? Invoicebridge.NONE : 2);
            check.due("fault behind R12 of " + sign, faultOf("R12" + put), 3);
            check.due("fault of a fault and " + sign, faultOf("RR" + put), 1);
            check.due("the first of two faults, behind " + sign, faultOf(" " + put), 0);
        }
        for (int number = 0; number <= 99; number++) {
            check.due("fault of R" + number, faultOf("R" + number), Invoicebridge.NONE);
            check.due("fault of R" + number + ", 2 digits", faultOf("R" + number / 10 + number % 10), Invoicebridge.NONE);
        }
        check.due("fault of 10 signs", faultOf("R000000000"), 3);
    }

    private static int faultOf(String text) {
        Invoicebridge x = new Invoicebridge();
        Check.typeAll(x, text);
        return x.fault();
    }

    // "By text, ... the cents are at most what is owed of it"
    private static void paymentAtMostOwed() {
        Check.Steps named = x -> {
            ONE_ACCEPTED.on(x);
            x.dispute(0, 1);
            Check.typeAll(x, "R00");
        };
        check.due("1", Check.made(named).payByText(1, 0, 1), 0);
        check.due("one less than all", Check.made(named).payByText(1, 0, 1189), 0);
        check.due("all that is owed", Check.made(named).payByText(1, 0, 1190), 0);
        check.refused("one more", Check.STATE, named, x -> x.payByText(1, 0, 1191));
        check.refused("with what is disputed", Check.STATE, named, x -> x.payByText(1, 0, 1725));
    }

    // "By sum, it is the invoice with the lowest number of those ..., and the cents are just what is owed."
    private static void paymentOfJustTheSum() {
        Check.Steps three = x -> {
            x.send(0, 1, 0, 99, 0);
            x.send(0, 1, 0, 100, 0);
            x.send(0, 1, 0, 100, 0);
            x.send(0, 1, 0, 101, 0);
            for (int i = 0; i < 4; i++) {
                x.accept(i);
            }
        };
        int[][] rows = {{99, 0}, {100, 1}, {101, 3}};
        for (int[] row : rows) {
            check.due("of " + row[0], Check.made(three).payBySum(1, 0, row[0]), row[1]);
        }
        check.refused("of 98", Check.STATE, three, x -> x.payBySum(1, 0, 98));
        check.refused("of 102", Check.STATE, three, x -> x.payBySum(1, 0, 102));
        check.refused("of all together", Check.STATE, three, x -> x.payBySum(1, 0, 400));
        Invoicebridge x = Check.made(three);
        x.sell(1, 2, 1, false);
        check.due("the lowest that it holds", x.payBySum(1, 0, 100), 2);
        check.due("what another one holds", x.payBySum(1, 2, 100), 1);
    }

    // "and accepted by the buyers or not yet, as they were made, without those that are REFUSED now"
    private static void taxWithoutRefused() {
        Invoicebridge x = new Invoicebridge();
        x.send(0, 1, 0, 100, 19);
        x.send(0, 2, 0, 200, 19);
        x.send(0, 3, 0, 300, 19);
        x.accept(0);
        x.pass(30);
        check.due("accepted or not yet", x.tax(0, 0), 19 + 38 + 57);
        x.refuse(1);
        check.due("refused in a later month", x.tax(0, 0), 19 + 57);
        check.due("and not in that month", x.tax(0, 1), 0);
        check.due("nor of its buyer", x.carried(2, 1), 0);
    }

    // "less the tax of those that it accepted in that month"
    private static void taxOfAcceptance() {
        Invoicebridge x = onDay(29);
        x.send(0, 1, 0, 100, 19);
        x.send(2, 3, 0, 100, 19);
        x.accept(0);
        x.pass(1);
        x.accept(1);
        check.due("on the last day of the month 0", x.carried(1, 0), -19);
        check.due("on the first day of the month 1, month 0", x.carried(3, 0), 0);
        check.due("on the first day of the month 1, month 1", x.carried(3, 1), -19);
        check.due("as it was sent", x.tax(2, 0), 19);
        check.due("and no later", x.tax(2, 1), 0);
    }

    // "of invoices that are ACCEPTED now, or, as a seller, SENT"
    private static void taxOfCreditsNow() {
        Invoicebridge x = onDay(29);
        for (int i = 0; i < 3; i++) {
            x.send(i, 5, 0, 1000, 19);
            x.credit(i, 0, 100);
        }
        check.due("a seller, sent", x.tax(0, 0), 171);
        check.due("the buyer, sent", x.tax(5, 0), 0);
        x.pass(1);
        x.credit(0, 0, 100);
        check.due("of the next month", x.carried(0, 1), -19);
        check.due("not of the month 0", x.tax(0, 0), 171);
        x.accept(0);
        x.refuse(1);
        check.due("a seller, accepted", x.tax(0, 0), 171);
        check.due("the buyer, accepted", x.tax(5, 0), 19);
        check.due("the buyer's next month", x.carried(5, 1), -190 + 19);
        check.due("a seller, refused", x.tax(1, 0), 0);
        check.due("and nothing to carry", x.carried(1, 0), 0);
        check.due("a seller, sent still", x.tax(2, 0), 171);
    }

    // "If it is below 0, nothing is due, and it is carried; otherwise it is due, and nothing is carried."
    private static void taxOf0() {
        int[] amounts = {99, 100, 105, 106};
        int[] due = {0, 0, 0, 1};
        int[] carried = {-1, 0, 0, 0};
        for (int i = 0; i < amounts.length; i++) {
            Invoicebridge x = new Invoicebridge();
            x.send(0, 1, 0, 100, 19);
            x.accept(0);
            x.send(1, 2, 0, amounts[i], 19);
            check.due("due with " + amounts[i], x.tax(1, 0), due[i]);
            check.due("carried with " + amounts[i], x.carried(1, 0), carried[i]);
            x.pass(30);
            check.due("due next with " + amounts[i], x.tax(1, 1), 0);
            check.due("carried next with " + amounts[i], x.carried(1, 1), carried[i]);
        }
    }

    // "Into the month 0 nothing is carried."
    private static void taxIntoMonth0() {
        Invoicebridge x = new Invoicebridge();
        x.send(0, 1, 0, 100, 19);
        x.accept(0);
        check.due("carried from the month 0 only what is of it", x.carried(1, 0), -19);
        x.pass(30);
        x.send(1, 2, 0, 100, 19);
        check.due("the month 0 as it was", x.carried(1, 0), -19);
        check.due("the month 1 with it", x.tax(1, 1), 0);
        check.due("and nothing is left", x.carried(1, 1), 0);
    }

    // "'As they were made' is with all amounts of their lines without credits."
    private static void taxAsTheyWereMade() {
        Invoicebridge x = new Invoicebridge();
        x.send(0, 1, 0, 100, 19);
        x.addLine(0, 100, 7);
        x.addLine(0, 100, 0);
        x.pass(30);
        x.credit(0, 0, 100);
        x.credit(0, 1, 50);
        x.accept(0);
        check.due("the month in which it was sent", x.tax(0, 0), 26);
        check.due("that of the credits", x.carried(0, 1), -19 - 4);
        check.due("the buyer's, less and more", x.carried(1, 1), -26 + 23);
        check.due("the tax as it is", x.about(0, 9), 3);
    }

    // "An object is used for at most 512 calls after it has been made"
    private static void callsUpTo512() {
        Invoicebridge x = new Invoicebridge();
        x.send(0, 1, 0, 9999, 19);
        x.accept(0);
        for (int call = 3; call < 511; call += 2) {
            x.sell(0, 2, 100, true);
            x.giveBack(0);
        }
        check.due("the 511th call", x.sell(0, 2, 100, false), 11898);
        check.due("the 512th call", x.cashAnew(2), -11898);
        Invoicebridge texts = new Invoicebridge();
        for (int call = 1; call <= 511; call++) {
            check.due("fault, call " + call, texts.fault(), 0);
        }
        check.due("the 512th call", texts.send(0, 1, 0, 1, 0), 0);
    }
}
