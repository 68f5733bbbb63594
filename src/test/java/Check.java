/** What the tests share: answers are compared, and a call that throws is shown to change nothing. */
final class Check {
    static final Class<? extends RuntimeException> INDEX = IndexOutOfBoundsException.class;
    static final Class<? extends RuntimeException> ARGUMENT = IllegalArgumentException.class;
    static final Class<? extends RuntimeException> STATE = IllegalStateException.class;

    interface Call {
        int on(Invoicebridge x);
    }

    interface Steps {
        void on(Invoicebridge x);
    }

    private final String test;
    private int wrong = 0;
    private int asked = 0;

    Check(String test) {
        this.test = test;
    }

    void due(String what, long got, long want) {
        asked++;
        if (got != want) {
            wrong(what + " answered " + got + ", due is " + want);
        }
    }

    void due(String what, String got, String want) {
        asked++;
        if (!got.equals(want)) {
            wrong(what + " answered " + got + ", due is " + want);
        }
    }

    /** The call throws exactly the exception, and all that can be asked behind it is as without it. */
    void refused(String what, Class<? extends RuntimeException> want, Steps ahead, Call call) {
        due(what, answer(call, made(ahead)), "throws." + want.getSimpleName());
        int invoices = countInvoices(made(ahead));
        for (int group = 0; group < invoices + 3; group++) {
            Invoicebridge with = made(ahead);
            Invoicebridge without = made(ahead);
            answer(call, with);
            due(what + " changes nothing, group " + group, tell(with, group, invoices), tell(without, group, invoices));
        }
    }

    /** Prints how it went; the exit code is 1 if an answer was wrong. */
    void end() {
        System.out.println(test + ": " + asked + " answers, " + wrong + " wrong");
        if (wrong > 0) {
            System.exit(1);
        }
    }

    static Invoicebridge made(Steps ahead) {
        Invoicebridge x = new Invoicebridge();
        ahead.on(x);
        return x;
    }

    static String answer(Call call, Invoicebridge x) {
        try {
            return Integer.toString(call.on(x));
        } catch (RuntimeException e) {
            String by = isThrownByTheProject(e) ? "" : " of the machine or its library";
            return "throws." + e.getClass().getSimpleName() + by;
        }
    }

    /** The library throws from classes of its own, and the machine sometimes without a trace. */
    private static boolean isThrownByTheProject(RuntimeException e) {
        StackTraceElement[] trace = e.getStackTrace();
        return trace.length > 0 && !trace[0].getClassName().startsWith("java.")
                && !trace[0].getClassName().startsWith("jdk.");
    }

    static void typeAll(Invoicebridge x, String text) {
        for (int i = 0; i < text.length(); i++) {
            x.type(text.charAt(i));
        }
    }

    private void wrong(String text) {
        wrong++;
        if (wrong <= 50) {
            System.out.println(test + ": " + text);
        }
    }

    private static int countInvoices(Invoicebridge x) {
        for (int i = 0; i < 20; i++) {
            int invoice = i;
            if (answer(y -> y.about(invoice, 0), x).startsWith("throws")) {
                return i;
            }
        }
        return 20;
    }

    /** One group of questions, few enough that an object stays below its 512 calls. */
    private static String tell(Invoicebridge x, int group, int invoices) {
        StringBuilder text = new StringBuilder();
        if (group < invoices) {
            tellInvoice(x, group, text);
        } else if (group == invoices) {
            tellCompanies(x, text);
        } else if (group == invoices + 1) {
            tellDraft(x, text);
        } else {
            tellWhatIsLeft(x, text);
        }
        return text.toString();
    }

    private static void tellInvoice(Invoicebridge x, int invoice, StringBuilder text) {
        for (int what = 0; what <= 9; what++) {
            int w = what;
            add(text, "about" + what, x, y -> y.about(invoice, w));
        }
        for (int line = 0; line <= 2; line++) {
            for (int what = 0; what <= 4; what++) {
                int l = line;
                int w = what;
                add(text, "line" + line + what, x, y -> y.lineOf(invoice, l, w));
            }
        }
        // What is behind the answers: the price and the recourse, the credits, what can be added.
        add(text, "addLine", x, y -> y.addLine(invoice, 1, 0));
        add(text, "giveBack", x, y -> y.giveBack(invoice));
        add(text, "accept", x, y -> y.accept(invoice));
        add(text, "credit", x, y -> y.credit(invoice, 0, 1));
        add(text, "settle", x, y -> y.settle(invoice, 0, false));
    }

    private static void tellCompanies(Invoicebridge x, StringBuilder text) {
        add(text, "day", x, Invoicebridge::day);
        for (int company = 0; company < 6; company++) {
            int c = company;
            add(text, "cash", x, y -> y.cash(c));
            add(text, "cashAnew", x, y -> y.cashAnew(c));
            add(text, "owedTo", x, y -> y.owedTo(c));
            add(text, "owes", x, y -> y.owes(c));
            for (int month = 0; month <= 5; month++) {
                int m = month;
                add(text, "tax", x, y -> y.tax(c, m));
                add(text, "carried", x, y -> y.carried(c, m));
            }
        }
        for (int goods = 0; goods < 8; goods++) {
            int g = goods;
            add(text, "chain", x, y -> y.chain(g));
        }
    }

    private static void tellDraft(Invoicebridge x, StringBuilder text) {
        add(text, "fault", x, Invoicebridge::fault);
        for (int payer = 0; payer < 6; payer++) {
            for (int to = 0; to < 6; to++) {
                int p = payer;
                int t = to;
                add(text, "payByText", x, y -> y.payByText(p, t, 1));
            }
        }
        add(text, "clear", x, Invoicebridge::clear);
    }

    private static void tellWhatIsLeft(Invoicebridge x, StringBuilder text) {
        add(text, "send", x, y -> y.send(0, 1, 0, 100, 0));
        for (int i = 0; i < 25; i++) {
            add(text, "credit", x, y -> y.credit(0, 0, 1));
        }
        add(text, "pass", x, y -> y.pass(31));
    }

    private static void add(StringBuilder text, String name, Invoicebridge x, Call call) {
        text.append(name).append('=').append(answer(call, x)).append(' ');
    }
}
