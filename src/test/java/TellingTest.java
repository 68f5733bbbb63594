/** Promises 17 to 26: what there is of invoices, lines, cash, tax, chains and days. */
public final class TellingTest {
    private static final Check check = new Check("TellingTest");

    private static final Check.Steps TWO = x -> {
        x.pass(5);
        x.send(0, 1, 2, 1000, 19);
        x.addLine(0, 500, 7);
        x.send(1, 2, 2, 3000, 19);
        x.accept(0);
    };

    public static void main(String[] args) {
        promise17About();
        promise18LineOf();
        promise19Cash();
        promise20CashAnew();
        promise21And22Owed();
        promise23TaxOfSellers();
        promise23TaxOfBuyers();
        promise23TaxOfCredits();
        promise23TaxOfCreditsAheadOfAcceptance();
        promise24Carried();
        promise23And24Refused();
        promise25Chain();
        promise25ChainLinks();
        promise26Day();
        check.end();
    }

    private static void promise17About() {
        Invoicebridge x = Check.made(TWO);
        x.credit(0, 0, 100);
        x.dispute(0, 1);
        x.sell(0, 4, 100, true);
        Check.typeAll(x, "R0");
        x.payByText(1, 4, 71);
        int[] due = {1, 0, 1, 4, 900 + 171 + 535, 1000, 71, 2, 5, 171 + 35};
        for (int what = 0; what <= 9; what++) {
            check.due("about(0, " + what + ")", x.about(0, what), due[what]);
        }
        int[] second = {0, 1, 2, 1, 3570, 0, 0, 1, 5, 570};
        for (int what = 0; what <= 9; what++) {
            check.due("about(1, " + what + ")", x.about(1, what), second[what]);
        }
        for (int wild : new int[] {Integer.MIN_VALUE, -1, 2, 20, Integer.MAX_VALUE}) {
            check.refused("about invoice " + wild, Check.INDEX, TWO, y -> y.about(wild, 0));
            check.refused("about, invoice first " + wild, Check.INDEX, TWO, y -> y.about(wild, 10));
        }
        for (int wild : new int[] {Integer.MIN_VALUE, -1, 10, Integer.MAX_VALUE}) {
            check.refused("about what " + wild, Check.ARGUMENT, TWO, y -> y.about(0, wild));
        }
    }

    private static void promise18LineOf() {
        Invoicebridge x = Check.made(TWO);
        x.credit(0, 1, 1);
        x.dispute(0, 1);
        int[] due = {499, 7, 34, 1, 500};
        int[] first = {1000, 19, 190, 0, 1000};
        for (int what = 0; what <= 4; what++) {
            check.due("lineOf(0, 1, " + what + ")", x.lineOf(0, 1, what), due[what]);
            check.due("lineOf(0, 0, " + what + ")", x.lineOf(0, 0, what), first[what]);
        }
        for (int wild : new int[] {Integer.MIN_VALUE, -1, 2, 20, Integer.MAX_VALUE}) {
            check.refused("lineOf invoice " + wild, Check.INDEX, TWO, y -> y.lineOf(wild, 0, 0));
            check.refused("lineOf line " + wild, Check.INDEX, TWO, y -> y.lineOf(0, wild, 0));
            check.refused("lineOf, line first " + wild, Check.INDEX, TWO, y -> y.lineOf(0, wild, 5));
        }
        check.refused("lineOf, a line of another invoice", Check.INDEX, TWO, y -> y.lineOf(1, 1, 0));
        for (int wild : new int[] {Integer.MIN_VALUE, -1, 5, Integer.MAX_VALUE}) {
            check.refused("lineOf what " + wild, Check.ARGUMENT, TWO, y -> y.lineOf(0, 0, wild));
        }
    }

    private static void promise19Cash() {
        Invoicebridge x = cashRun();
        int[] due = {-23, -100, 0, 123, 0, 0};
        for (int c = 0; c < 6; c++) {
            check.due("cash(" + c + ")", x.cash(c), due[c]);
        }
        refusedOfCompanies("cash", Invoicebridge::cash);
    }

    private static void promise20CashAnew() {
        Invoicebridge x = cashRun();
        int[] due = {-23, -100, 0, 123, 0, 0};
        for (int c = 0; c < 6; c++) {
            check.due("cashAnew(" + c + ")", x.cashAnew(c), due[c]);
        }
        check.due("all cash together", x.cash(0) + x.cash(1) + x.cash(2) + x.cash(3) + x.cash(4) + x.cash(5), 0);
        refusedOfCompanies("cashAnew", Invoicebridge::cashAnew);
        Invoicebridge most = new Invoicebridge();
        most.send(0, 1, 0, 9999, 0);
        most.accept(0);
        for (int i = 0; i < 254; i++) {
            most.sell(0, 2, 1 + i % 100, true);
            most.giveBack(0);
        }
        check.due("508 documents", most.sell(0, 2, 50, true), 4999);
        check.due("cash of them", most.cash(0), 4999);
        check.due("cashAnew of them", most.cashAnew(2), -4999);
    }

    private static Invoicebridge cashRun() {
        Invoicebridge x = new Invoicebridge();
        x.send(0, 1, 2, 1000, 0);
        x.accept(0);
        x.sell(0, 3, 50, true);
        Check.typeAll(x, "R0");
        x.payByText(1, 3, 100);
        x.giveBack(0);
        x.send(3, 0, 0, 23, 0);
        x.accept(1);
        x.payBySum(0, 3, 23);
        return x;
    }

    private static void promise21And22Owed() {
        Invoicebridge x = Check.made(TWO);
        x.send(4, 1, 0, 77, 0);
        x.accept(2);
        x.accept(1);
        int[] to = {1725, 3570, 0, 0, 77, 0};
        int[] from = {0, 1802, 3570, 0, 0, 0};
        dueOwed(x, to, from);
        x.sell(2, 0, 1, false);
        x.dispute(0, 1);
        x.payBySum(2, 1, 3570);
        dueOwed(x, new int[] {1190 + 77, 0, 0, 0, 0, 0}, new int[] {0, 1267, 0, 0, 0, 0});
        x.send(0, 1, 0, 50, 0);
        x.send(0, 1, 0, 50, 0);
        x.refuse(4);
        dueOwed(x, new int[] {1267, 0, 0, 0, 0, 0}, new int[] {0, 1267, 0, 0, 0, 0});
        refusedOfCompanies("owedTo", Invoicebridge::owedTo);
        refusedOfCompanies("owes", Invoicebridge::owes);
    }

    private static void dueOwed(Invoicebridge x, int[] to, int[] from) {
        for (int c = 0; c < 6; c++) {
            check.due("owedTo(" + c + ")", x.owedTo(c), to[c]);
            check.due("owes(" + c + ")", x.owes(c), from[c]);
        }
    }

    private interface OfCompany {
        int of(Invoicebridge x, int company);
    }

    private static void refusedOfCompanies(String name, OfCompany call) {
        for (int wild : new int[] {Integer.MIN_VALUE, -1, 6, Integer.MAX_VALUE}) {
            check.refused(name + " of " + wild, Check.INDEX, TWO, y -> call.of(y, wild));
        }
    }

    private static void promise23TaxOfSellers() {
        Invoicebridge x = new Invoicebridge();
        x.send(0, 1, 2, 1000, 19);
        check.due("of what is sent", x.tax(0, 0), 190);
        check.due("not yet of the buyer", x.carried(1, 0), 0);
        x.addLine(0, 99, 7);
        check.due("each line rounded down", x.tax(0, 0), 196);
        x.send(0, 2, 2, 1000, 7);
        check.due("with another one", x.tax(0, 0), 266);
        x.refuse(1);
        check.due("without the refused one", x.tax(0, 0), 196);
        check.due("not of the buyer", x.carried(2, 0), 0);
        x.pass(30);
        x.accept(0);
        check.due("by the month of sending", x.tax(0, 0), 196);
        check.due("not by that of acceptance", x.tax(0, 1), 0);
        check.due("for the buyer not by that of sending", x.carried(1, 0), 0);
        check.due("but by that of acceptance", x.carried(1, 1), -196);
        x.send(0, 3, 0, 100, 19);
        check.due("a month is for itself", x.tax(0, 1), 19);
        x.sell(0, 5, 50, true);
        check.due("holders are no matter", x.tax(0, 0), 196);
        check.due("of a holder", x.tax(5, 0), 0);
    }

    private static void promise23TaxOfBuyers() {
        Invoicebridge x = new Invoicebridge();
        x.send(0, 1, 2, 1000, 19);
        x.accept(0);
        x.send(1, 2, 2, 3000, 19);
        check.due("what is sent less what is accepted", x.tax(1, 0), 570 - 190);
        check.due("nothing is carried", x.carried(1, 0), 0);
        x.dispute(0, 0);
        check.due("disputes are no matter", x.tax(1, 0), 380);
        x.settle(0, 0, true);
        check.due("but the credit", x.tax(1, 0), 570);
        check.due("of the seller too", x.tax(0, 0), 0);
        x.refuse(1);
        check.due("the refused one falls away", x.tax(1, 0), 0);
    }

    private static void promise23TaxOfCredits() {
        Invoicebridge x = new Invoicebridge();
        x.send(0, 1, 2, 1000, 19);
        x.accept(0);
        x.pass(30);
        x.credit(0, 0, 3);
        check.due("the tax of the line ahead less behind", x.lineOf(0, 0, 2), 189);
        check.due("of the month of sending as it was made", x.tax(0, 0), 190);
        check.due("of the month of the credit", x.carried(0, 1), -1);
        check.due("the buyer carries", x.carried(1, 0), -190);
        check.due("and has 1 more", x.carried(1, 1), -189);
        x.credit(0, 0, 1);
        check.due("a credit whose tax is as it was", x.carried(0, 1), -1);
        x.pass(30);
        x.credit(0, 0, 996);
        check.due("all the others", x.carried(0, 2), -1 - 189);
        check.due("of the buyer", x.carried(1, 2), 0);
        check.due("nothing is due of it", x.tax(1, 2), 0);
    }

    private static void promise23TaxOfCreditsAheadOfAcceptance() {
        Invoicebridge x = new Invoicebridge();
        x.send(0, 1, 2, 1000, 19);
        x.send(0, 2, 2, 1000, 19);
        x.credit(0, 0, 100);
        x.credit(1, 0, 100);
        check.due("credits of what is sent, as a seller", x.tax(0, 0), 190 + 190 - 19 - 19);
        check.due("not as a buyer", x.tax(1, 0), 0);
        x.refuse(1);
        check.due("not of what is refused", x.tax(0, 0), 171);
        check.due("nor as its buyer", x.tax(2, 0), 0);
        x.pass(30);
        x.accept(0);
        check.due("as a buyer, when it is accepted", x.tax(1, 0), 19);
        check.due("and all of it by its acceptance", x.carried(1, 1), -190);
        check.due("as a seller", x.tax(0, 0), 171);
    }

    private static void promise24Carried() {
        Invoicebridge x = new Invoicebridge();
        x.send(0, 1, 2, 1000, 19);
        x.accept(0);
        x.pass(60);
        check.due("carried from the month 0", x.carried(1, 0), -190);
        check.due("carried on", x.carried(1, 1), -190);
        x.send(1, 0, 0, 500, 19);
        check.due("partly used", x.carried(1, 2), -95);
        check.due("nothing is due", x.tax(1, 2), 0);
        x.pass(30);
        x.send(1, 0, 0, 500, 19);
        check.due("just 0", x.carried(1, 3), 0);
        check.due("just 0 is due", x.tax(1, 3), 0);
        x.pass(30);
        x.send(1, 0, 0, 100, 19);
        check.due("what is due is not carried", x.tax(1, 4), 19);
        x.pass(30);
        check.due("nor due again", x.tax(1, 5), 0);
        check.due("the seller's tax is due", x.tax(0, 0), 190);
        check.due("and once", x.tax(0, 1), 0);
        for (int i = 0; i < 14; i++) {
            x.pass(60);
        }
        check.due("the last month", x.pass(9), 33);
        check.due("carried to it", x.carried(1, 33), 0);
    }

    private static void promise23And24Refused() {
        Check.Steps later = x -> {
            TWO.on(x);
            x.pass(60);
        };
        for (int wild : new int[] {Integer.MIN_VALUE, -1, 6, Integer.MAX_VALUE}) {
            check.refused("tax of " + wild, Check.INDEX, later, x -> x.tax(wild, 0));
            check.refused("carried of " + wild, Check.INDEX, later, x -> x.carried(wild, 0));
        }
        for (int wild : new int[] {Integer.MIN_VALUE, -1, 3, 33, Integer.MAX_VALUE}) {
            check.refused("tax for " + wild, Check.INDEX, later, x -> x.tax(0, wild));
            check.refused("carried for " + wild, Check.INDEX, later, x -> x.carried(0, wild));
        }
        check.due("the month of now", Check.made(later).tax(1, 2), 0);
    }

    private static void promise25Chain() {
        Invoicebridge x = Check.made(TWO);
        check.due("the accepted one alone", x.chain(2), 190 + 35);
        x.accept(1);
        check.due("less what is ahead", x.chain(2), 225 + 570 - 225);
        check.due("other goods", x.chain(3), 0);
        x.credit(0, 0, 1000);
        check.due("by the lines as they are", x.chain(2), 35 + 570 - 35);
        x.credit(1, 0, 2900);
        check.due("at least 0 for each", x.chain(2), 35);
        x.dispute(0, 1);
        check.due("disputes are no matter", x.chain(2), 35);
        for (int wild : new int[] {Integer.MIN_VALUE, -1, 8, Integer.MAX_VALUE}) {
            check.refused("chain of " + wild, Check.INDEX, TWO, y -> y.chain(wild));
        }
    }

    private static void promise25ChainLinks() {
        Invoicebridge x = new Invoicebridge();
        x.send(2, 3, 7, 1000, 19);
        x.send(0, 2, 7, 500, 19);
        x.send(1, 2, 7, 300, 19);
        x.send(1, 2, 6, 900, 19);
        x.send(4, 2, 7, 800, 19);
        x.send(2, 5, 7, 1000, 7);
        x.send(2, 5, 7, 1000, 19);
        for (int i : new int[] {0, 1, 2, 3, 5, 6}) {
            x.accept(i);
        }
        check.due("lower numbers, same goods, the greatest, accepted", x.chain(7), 190 + 95 + 57 + 0 + 95);
        check.due("of the other goods", x.chain(6), 171);
        x.refuse(4);
        check.due("a refused one is no link", x.chain(7), 437);
    }

    private static void promise26Day() {
        Invoicebridge x = new Invoicebridge();
        check.due("day", x.day(), 0);
        x.pass(17);
        check.due("day", x.day(), 17);
        x.pass(60);
        check.due("day", x.day(), 77);
        check.due("asking changes nothing", x.day(), 77);
    }
}
