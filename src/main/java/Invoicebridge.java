import java.util.ArrayList;

/**
 * A network of invoices: lines with rates of tax, credits, disputes, payments, invoices that are
 * sold and then are owed to who bought them, tax by months, chains of the same goods, and cash.
 */
public final class Invoicebridge {
    public static final int NONE = -1;
    public static final int SENT = 0, ACCEPTED = 1, REFUSED = 2;

    private static final int COMPANIES = 6;
    private static final int GOODS = 8;
    private static final int MOST_INVOICES = 20;
    private static final int MOST_LINES = 3;
    private static final int MOST_CREDITS = 24;
    private static final int MOST_AMOUNT = 9999;
    private static final int MOST_CENTS = 99999;
    private static final int HUNDREDTHS = 100;
    private static final int LOW_RATE = 7;
    private static final int HIGH_RATE = 19;
    private static final int FIRST_SIGN = 32;
    private static final int LAST_SIGN = 126;
    private static final int MOST_SIGNS = 10;
    private static final int MONTH_DAYS = 30;
    private static final int MOST_DAYS = 60;
    private static final int LAST_DAY = 999;

    // Each call makes at most one document, and an object is used for 512 calls.
    private static final int MOST_DOCUMENTS = 512;

    private final ArrayList<Invoice> invoices = new ArrayList<Invoice>();
    private final ArrayList<Credit> credits = new ArrayList<Credit>();
    private final ArrayList<Document> documents = new ArrayList<Document>();
    private final int[] cashOf = new int[COMPANIES];
    private final StringBuilder draft = new StringBuilder();
    private int today = 0;

    public Invoicebridge() {
    }

    // ---- invoices

    public int send(int seller, int buyer, int goods, int amount, int rate)
            throws IndexOutOfBoundsException, IllegalArgumentException, IllegalStateException {
        checkCompany(seller);
        checkCompany(buyer);
        checkGoods(goods);
        checkAmount(amount);
        checkRate(rate);
        checkTwoCompanies(seller, buyer);
        if (invoices.size() >= MOST_INVOICES) {
            throw new IllegalStateException("there are 20 invoices");
        }
        Invoice sent = new Invoice(seller, buyer, goods, today);
        sent.lines.add(new Line(amount, rate));
        invoices.add(sent);
        return invoices.size() - 1;
    }

    public int addLine(int invoice, int amount, int rate)
            throws IndexOutOfBoundsException, IllegalArgumentException, IllegalStateException {
        Invoice longer = invoiceAt(invoice);
        checkAmount(amount);
        checkRate(rate);
        checkSent(longer);
        if (longer.sentDay != today) {
            throw new IllegalStateException("the invoice was sent on an earlier day");
        }
        if (longer.lines.size() >= MOST_LINES) {
            throw new IllegalStateException("the invoice has 3 lines");
        }
        if (longer.hasCredit) {
            throw new IllegalStateException("the invoice has a credit");
        }
        longer.lines.add(new Line(amount, rate));
        return longer.lines.size() - 1;
    }

    public int accept(int invoice) throws IndexOutOfBoundsException, IllegalStateException {
        Invoice accepted = invoiceAt(invoice);
        checkSent(accepted);
        accepted.state = ACCEPTED;
        accepted.acceptedDay = today;
        return accepted.owedNow();
    }

    public int refuse(int invoice) throws IndexOutOfBoundsException, IllegalStateException {
        Invoice refused = invoiceAt(invoice);
        checkSent(refused);
        refused.state = REFUSED;
        return refused.costNow();
    }

    public int credit(int invoice, int line, int amount)
            throws IndexOutOfBoundsException, IllegalArgumentException, IllegalStateException {
        Invoice credited = invoiceAt(invoice);
        Line less = lineAt(credited, line);
        checkAmount(amount);
        if (amount > less.amount) {
            throw new IllegalArgumentException("the amount is above that of the line");
        }
        if (credited.state == REFUSED) {
            throw new IllegalStateException("the invoice is refused");
        }
        checkRoomForCredit();
        makeCredit(credited, less, amount);
        return less.amount;
    }

    public int dispute(int invoice, int line)
            throws IndexOutOfBoundsException, IllegalStateException {
        Invoice disputed = invoiceAt(invoice);
        Line doubtful = lineAt(disputed, line);
        if (disputed.state != ACCEPTED) {
            throw new IllegalStateException("the invoice is not accepted");
        }
        if (doubtful.isDisputed) {
            throw new IllegalStateException("the line is disputed");
        }
        if (doubtful.amount == 0) {
            throw new IllegalStateException("the amount of the line is 0");
        }
        doubtful.isDisputed = true;
        return disputed.owedNow();
    }

    public int settle(int invoice, int line, boolean isRight)
            throws IndexOutOfBoundsException, IllegalStateException {
        Invoice settled = invoiceAt(invoice);
        Line disputed = lineAt(settled, line);
        if (!disputed.isDisputed) {
            throw new IllegalStateException("the line is not disputed");
        }
        if (isRight) {
            checkRoomForCredit();
            makeCredit(settled, disputed, disputed.amount);
        }
        disputed.isDisputed = false;
        return settled.owedNow();
    }

    // ---- holders

    public int sell(int invoice, int to, int part, boolean isRecourse)
            throws IndexOutOfBoundsException, IllegalArgumentException, IllegalStateException {
        Invoice sold = invoiceAt(invoice);
        checkCompany(to);
        if (part < 1 || part > HUNDREDTHS) {
            throw new IllegalArgumentException("the part is out of range");
        }
        if (to == sold.seller || to == sold.buyer) {
            throw new IllegalArgumentException("the company is the seller or the buyer");
        }
        checkOwed(sold);
        if (sold.holder != sold.seller) {
            throw new IllegalStateException("the seller does not hold the invoice");
        }
        checkRoomForDocument();
        sold.price = sold.owedNow() * part / HUNDREDTHS;
        sold.isRecourse = isRecourse;
        sold.holder = to;
        moveCash(to, sold.seller, sold.price);
        return sold.price;
    }

    public int giveBack(int invoice) throws IndexOutOfBoundsException, IllegalStateException {
        Invoice returned = invoiceAt(invoice);
        if (returned.holder == returned.seller) {
            throw new IllegalStateException("the seller holds the invoice");
        }
        if (!returned.isRecourse) {
            throw new IllegalStateException("the invoice was sold without recourse");
        }
        checkOwed(returned);
        checkRoomForDocument();
        moveCash(returned.seller, returned.holder, returned.price);
        returned.holder = returned.seller;
        return returned.price;
    }

    // ---- payments, days

    public int type(int sign) throws IllegalArgumentException, IllegalStateException {
        if (sign < FIRST_SIGN || sign > LAST_SIGN) {
            throw new IllegalArgumentException("the sign is out of range");
        }
        if (draft.length() >= MOST_SIGNS) {
            throw new IllegalStateException("the draft has 10 signs");
        }
        draft.append((char) sign);
        return draft.length();
    }

    public int clear() {
        int length = draft.length();
        draft.setLength(0);
        return length;
    }

    public int fault() {
        return faultOfDraft();
    }

    public int payByText(int payer, int to, int cents)
            throws IndexOutOfBoundsException, IllegalArgumentException, IllegalStateException {
        checkPayment(payer, to, cents);
        if (faultOfDraft() != NONE) {
            throw new IllegalStateException("the draft has a fault");
        }
        int number = numberOfDraft();
        if (!isInvoice(number)) {
            throw new IllegalStateException("there is no such invoice");
        }
        Invoice named = invoices.get(number);
        if (named.buyer != payer) {
            throw new IllegalStateException("the payer is not the buyer of the invoice");
        }
        if (named.holder != to) {
            throw new IllegalStateException("the paid company does not hold the invoice");
        }
        if (cents > named.owedNow()) {
            throw new IllegalStateException("less is owed of the invoice");
        }
        checkRoomForDocument();
        takePayment(named, cents);
        draft.setLength(0);
        return number;
    }

    public int payBySum(int payer, int to, int cents)
            throws IndexOutOfBoundsException, IllegalArgumentException, IllegalStateException {
        checkPayment(payer, to, cents);
        for (int i = 0; i < invoices.size(); i++) {
            Invoice matched = invoices.get(i);
            if (matched.buyer == payer && matched.holder == to && matched.owedNow() == cents) {
                checkRoomForDocument();
                takePayment(matched, cents);
                return i;
            }
        }
        throw new IllegalStateException("there is no such invoice");
    }

    public int pass(int days) throws IllegalArgumentException, IllegalStateException {
        if (days < 1 || days > MOST_DAYS) {
            throw new IllegalArgumentException("the days are out of range");
        }
        if (today + days > LAST_DAY) {
            throw new IllegalStateException("it would be above the day 999");
        }
        today += days;
        return monthOf(today);
    }

    // ---- what there is

    public int about(int invoice, int what)
            throws IndexOutOfBoundsException, IllegalArgumentException {
        Invoice told = invoiceAt(invoice);
        switch (what) {
            case 0: return told.state;
            case 1: return told.seller;
            case 2: return told.buyer;
            case 3: return told.holder;
            case 4: return told.costNow();
            case 5: return told.owedNow();
            case 6: return told.paid;
            case 7: return told.lines.size();
            case 8: return told.sentDay;
            case 9: return told.taxNow();
            default: throw new IllegalArgumentException("what is out of range");
        }
    }

    public int lineOf(int invoice, int line, int what)
            throws IndexOutOfBoundsException, IllegalArgumentException {
        Line told = lineAt(invoiceAt(invoice), line);
        switch (what) {
            case 0: return told.amount;
            case 1: return told.rate;
            case 2: return told.taxNow();
            case 3: return told.isDisputed ? 1 : 0;
            case 4: return told.made;
            default: throw new IllegalArgumentException("what is out of range");
        }
    }

    public int cash(int company) throws IndexOutOfBoundsException {
        if (company < 0 || company >= cashOf.length) {
            throw new IndexOutOfBoundsException("there is no such company");
        }
        return cashOf[company];
    }

    public int cashAnew(int company) throws IndexOutOfBoundsException {
        checkCompany(company);
        int sum = 0;
        for (int i = 0; i < documents.size(); i++) {
            Document document = documents.get(i);
            if (document.to == company) {
                sum += document.cents;
            }
            if (document.from == company) {
                sum -= document.cents;
            }
        }
        return sum;
    }

    public int owedTo(int company) throws IndexOutOfBoundsException {
        checkCompany(company);
        int sum = 0;
        for (int i = 0; i < invoices.size(); i++) {
            Invoice held = invoices.get(i);
            if (held.holder == company) {
                sum += held.owedNow();
            }
        }
        return sum;
    }

    public int owes(int company) throws IndexOutOfBoundsException {
        checkCompany(company);
        int sum = 0;
        for (int i = 0; i < invoices.size(); i++) {
            Invoice bought = invoices.get(i);
            if (bought.buyer == company) {
                sum += bought.owedNow();
            }
        }
        return sum;
    }

    public int tax(int company, int month) throws IndexOutOfBoundsException {
        checkCompany(company);
        checkMonth(month);
        return Math.max(taxWithCarried(company, month), 0);
    }

    public int carried(int company, int month) throws IndexOutOfBoundsException {
        checkCompany(company);
        checkMonth(month);
        return Math.min(taxWithCarried(company, month), 0);
    }

    public int chain(int goods) throws IndexOutOfBoundsException {
        checkGoods(goods);
        int sum = 0;
        for (int i = 0; i < invoices.size(); i++) {
            Invoice link = invoices.get(i);
            if (link.isAcceptedOf(goods)) {
                sum += Math.max(link.taxNow() - greatestTaxAhead(i, link), 0);
            }
        }
        return sum;
    }

    public int day() {
        return today;
    }

    // ---- what is checked

    private void checkCompany(int company) {
        if (company < 0 || company >= COMPANIES) {
            throw new IndexOutOfBoundsException("there is no such company");
        }
    }

    private void checkGoods(int goods) {
        if (goods < 0 || goods >= GOODS) {
            throw new IndexOutOfBoundsException("there are no such goods");
        }
    }

    private void checkMonth(int month) {
        if (month < 0 || month > monthOf(today)) {
            throw new IndexOutOfBoundsException("there is no such month");
        }
    }

    private void checkAmount(int amount) {
        if (amount < 1 || amount > MOST_AMOUNT) {
            throw new IllegalArgumentException("the amount is out of range");
        }
    }

    private void checkRate(int rate) {
        if (rate != 0 && rate != LOW_RATE && rate != HIGH_RATE) {
            throw new IllegalArgumentException("the rate is out of range");
        }
    }

    private void checkTwoCompanies(int one, int other) {
        if (one == other) {
            throw new IllegalArgumentException("both companies are the same");
        }
    }

    private void checkPayment(int payer, int to, int cents) {
        checkCompany(payer);
        checkCompany(to);
        if (cents < 1 || cents > MOST_CENTS) {
            throw new IllegalArgumentException("the cents are out of range");
        }
        checkTwoCompanies(payer, to);
    }

    private void checkSent(Invoice invoice) {
        if (invoice.state != SENT) {
            throw new IllegalStateException("the invoice is accepted or refused");
        }
    }

    // Nothing is owed of what is not accepted, so this also tells that an invoice is.
    private void checkOwed(Invoice invoice) {
        if (invoice.owedNow() == 0) {
            throw new IllegalStateException("nothing is owed of the invoice");
        }
    }

    private void checkRoomForCredit() {
        if (credits.size() >= MOST_CREDITS) {
            throw new IllegalStateException("there are 24 credits");
        }
    }

    // Only behind the 512th call, where answers are free, can this throw: it keeps the object small.
    private void checkRoomForDocument() {
        if (documents.size() >= MOST_DOCUMENTS) {
            throw new IllegalStateException("there are 512 documents");
        }
    }

    private boolean isInvoice(int number) {
        return number >= 0 && number < invoices.size();
    }

    private Invoice invoiceAt(int number) {
        if (!isInvoice(number)) {
            throw new IndexOutOfBoundsException("there is no such invoice");
        }
        return invoices.get(number);
    }

    private Line lineAt(Invoice invoice, int line) {
        if (line < 0 || line >= invoice.lines.size()) {
            throw new IndexOutOfBoundsException("the invoice has no such line");
        }
        return invoice.lines.get(line);
    }

    // ---- what is done

    private void makeCredit(Invoice invoice, Line line, int amount) {
        int taxAhead = line.taxNow();
        line.amount -= amount;
        invoice.hasCredit = true;
        credits.add(new Credit(invoice, monthOf(today), taxAhead - line.taxNow()));
    }

    private void takePayment(Invoice invoice, int cents) {
        invoice.paid += cents;
        moveCash(invoice.buyer, invoice.holder, cents);
    }

    private void moveCash(int from, int to, int cents) {
        documents.add(new Document(from, to, cents));
        addCash(from, -cents);
        addCash(to, cents);
    }

    private void addCash(int company, int cents) {
        if (company >= 0 && company < cashOf.length) {
            cashOf[company] += cents;
        }
    }

    // ---- what is found

    private int faultOfDraft() {
        int length = draft.length();
        if (length < 1 || draft.charAt(0) != 'R') {
            return 0;
        }
        if (length < 2 || !isDigit(draft.charAt(1))) {
            return 1;
        }
        if (length < 3) {
            return NONE;
        }
        if (!isDigit(draft.charAt(2))) {
            return 2;
        }
        return length == 3 ? NONE : 3;
    }

    // Asked only of a draft without a fault: behind its "R" there are digits alone.
    private int numberOfDraft() {
        int number = 0;
        for (int i = 1; i < draft.length(); i++) {
            number = number * 10 + (draft.charAt(i) - '0');
        }
        return number;
    }

    // The tax of a month with what is carried into it: due if it is not below 0, carried if it is.
    private int taxWithCarried(int company, int month) {
        int sum = 0;
        for (int i = 0; i <= month; i++) {
            sum = Math.min(sum, 0) + taxOfMonth(company, i);
        }
        return sum;
    }

    private int taxOfMonth(int company, int month) {
        int sum = 0;
        for (int i = 0; i < invoices.size(); i++) {
            sum += invoices.get(i).taxFor(company, month);
        }
        for (int i = 0; i < credits.size(); i++) {
            sum += credits.get(i).taxFor(company, month);
        }
        return sum;
    }

    private int greatestTaxAhead(int number, Invoice link) {
        int greatest = 0;
        for (int i = 0; i < number && i < invoices.size(); i++) {
            Invoice ahead = invoices.get(i);
            if (ahead.isAcceptedOf(link.goods) && ahead.buyer == link.seller) {
                greatest = Math.max(greatest, ahead.taxNow());
            }
        }
        return greatest;
    }

    private static boolean isDigit(char sign) {
        return sign >= '0' && sign <= '9';
    }

    private static int monthOf(int aDay) {
        return aDay / MONTH_DAYS;
    }

    private static int taxOf(int amount, int rate) {
        return amount * rate / HUNDREDTHS;
    }

    private static final class Line {
        final int made;
        final int rate;
        int amount;
        boolean isDisputed = false;

        Line(int amount, int rate) {
            this.made = amount;
            this.rate = rate;
            this.amount = amount;
        }

        int taxNow() {
            return taxOf(amount, rate);
        }

        int taxAsMade() {
            return taxOf(made, rate);
        }

        int costNow() {
            return amount + taxNow();
        }
    }

    private static final class Invoice {
        final int seller;
        final int buyer;
        final int goods;
        final int sentDay;
        final ArrayList<Line> lines = new ArrayList<Line>();
        int state = SENT;
        int acceptedDay = NONE;
        boolean hasCredit = false;
        int paid = 0;
        int holder;
        // What the last sale was paid with, and whether it was with recourse.
        int price = 0;
        boolean isRecourse = false;

        Invoice(int seller, int buyer, int goods, int sentDay) {
            this.seller = seller;
            this.buyer = buyer;
            this.goods = goods;
            this.sentDay = sentDay;
            this.holder = seller;
        }

        boolean isAcceptedOf(int someGoods) {
            return state == ACCEPTED && goods == someGoods;
        }

        int costNow() {
            int sum = 0;
            for (int i = 0; i < lines.size(); i++) {
                sum += lines.get(i).costNow();
            }
            return sum;
        }

        int owedNow() {
            if (state != ACCEPTED) {
                return 0;
            }
            int sum = 0;
            for (int i = 0; i < lines.size(); i++) {
                Line line = lines.get(i);
                sum += line.isDisputed ? 0 : line.costNow();
            }
            return Math.max(sum - paid, 0);
        }

        int taxNow() {
            int sum = 0;
            for (int i = 0; i < lines.size(); i++) {
                sum += lines.get(i).taxNow();
            }
            return sum;
        }

        int taxAsMade() {
            int sum = 0;
            for (int i = 0; i < lines.size(); i++) {
                sum += lines.get(i).taxAsMade();
            }
            return sum;
        }

        int taxFor(int company, int month) {
            if (company == seller && state != REFUSED && monthOf(sentDay) == month) {
                return taxAsMade();
            }
            if (company == buyer && state == ACCEPTED && monthOf(acceptedDay) == month) {
                return -taxAsMade();
            }
            return 0;
        }
    }

    private static final class Credit {
        final Invoice invoice;
        final int month;
        final int taxLess;

        Credit(Invoice invoice, int month, int taxLess) {
            this.invoice = invoice;
            this.month = month;
            this.taxLess = taxLess;
        }

        int taxFor(int company, int someMonth) {
            if (month != someMonth) {
                return 0;
            }
            if (company == invoice.seller && invoice.state != REFUSED) {
                return -taxLess;
            }
            if (company == invoice.buyer && invoice.state == ACCEPTED) {
                return taxLess;
            }
            return 0;
        }
    }

    // Of a payment, a sale or a recourse: cents that one company gave to another one.
    private static final class Document {
        final int from;
        final int to;
        final int cents;

        Document(int from, int to, int cents) {
            this.from = from;
            this.to = to;
            this.cents = cents;
        }
    }
}
