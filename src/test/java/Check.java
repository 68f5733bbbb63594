import java.util.List;

/** What the tests share: answers are compared, and a call that throws is shown to change nothing. */
final class Check {
    static final Class<? extends RuntimeException> INDEX = IndexOutOfBoundsException.class;
    static final Class<? extends RuntimeException> ARGUMENT = IllegalArgumentException.class;
    static final Class<? extends RuntimeException> STATE = IllegalStateException.class;

    interface Call {
        int on(Invoicebridge x);
    }

    interface Steps {
        void on(Invoicebridge x);

        default Steps then(Steps next) {
            return x -> {
                on(x);
                next.on(x);
            };
        }
    }

    /** A call with the exception that it throws. */
    record Refusal(String what, Class<? extends RuntimeException> want, Call call) { }

    // So many refused calls leave room for the questions behind them within the 512 calls.
    private static final int REFUSALS_TOGETHER = 100;
    private static final int OTHER_GROUPS = 4;

    private final String test;
    private int wrong = 0;
    private int asked = 0;

    Check(String test) {
        this.test = test;
    }

    void due(String what, long got, long want) {
        asked++;
        if (got != want) {
            wrong(what + " answered " + got + ", due is " + want);
        }
    }

    void due(String what, String got, String want) {
        asked++;
        if (!got.equals(want)) {
            wrong(what + " answered " + got + ", due is " + want);
        }
    }

    void due(String what, Class<? extends RuntimeException> want, Call call, Invoicebridge x) {
        due(what, answer(call, x), thrown(want));
    }

    /** The call throws exactly the exception, and all that can be asked behind it is as without it. */
    void refused(String what, Class<? extends RuntimeException> want, Steps ahead, Call call) {
        due(what, want, call, made(ahead));
        dueAsWithout(what, ahead, x -> answer(call, x));
    }

    /** Each of the calls throws exactly its exception, and all is behind them as without them. */
    void allRefused(String what, Steps ahead, List<Refusal> refusals) {
        due(what + " has refusals", refusals.isEmpty() ? 0 : 1, 1);
        for (int from = 0; from < refusals.size(); from += REFUSALS_TOGETHER) {
            List<Refusal> some = refusals.subList(from, Math.min(from + REFUSALS_TOGETHER, refusals.size()));
            Invoicebridge asked = made(ahead);
            for (Refusal one : some) {
                due(what + ", " + one.what, one.want, one.call, asked);
            }
            dueAsWithout(what + ", refusals from " + from, ahead, x -> {
                for (Refusal one : some) {
                    answer(one.call, x);
                }
            });
        }
    }

    private void dueAsWithout(String what, Steps ahead, Steps refused) {
        int invoices = countInvoices(made(ahead));
        for (int group = 0; group < invoices + OTHER_GROUPS; group++) {
            Invoicebridge with = made(ahead);
            Invoicebridge without = made(ahead);
            refused.on(with);
            due(what + " changes nothing, group " + group, tell(with, group, invoices), tell(without, group, invoices));
        }
    }

    private static String thrown(Class<? extends RuntimeException> want) {
        return "throws." + want.getSimpleName();
    }

    /** Prints how it went; the exit code is 1 if an answer was wrong. */
    void end() {
        System.out.println(test + ": " + asked + " answers, " + wrong + " wrong");
        if (wrong > 0) {
            System.exit(1);
        }
    }

    static Invoicebridge made(Steps ahead) {
        Invoicebridge x = new Invoicebridge();
        ahead.on(x);
        return x;
    }

    static String answer(Call call, Invoicebridge x) {
        try {
            return Integer.toString(call.on(x));
        } catch (RuntimeException e) {
            String by = isThrownByTheProject(e) ? "" : " of the machine or its library";
            return "throws." + e.getClass().getSimpleName() + by;
        }
    }

    /** The library throws from classes of its own, and the machine sometimes without a trace. */
    private static boolean isThrownByTheProject(RuntimeException e) {
        StackTraceElement[] trace = e.getStackTrace();
        return trace.length > 0 && !trace[0].getClassName().startsWith("java.")
                && !trace[0].getClassName().startsWith("jdk.");
    }

    static void typeAll(Invoicebridge x, String text) {
        for (int i = 0; i < text.length(); i++) {
            x.type(text.charAt(i));
        }
    }

    private void wrong(String text) {
        wrong++;
        if (wrong <= 50) {
            System.out.println(test + ": " + text);
        }
    }

    private static int countInvoices(Invoicebridge x) {
        for (int i = 0; i < 20; i++) {
            int invoice = i;
            if (answer(y -> y.about(invoice, 0), x).startsWith("throws")) {
                return i;
            }
        }
        return 20;
    }

    /** One group of questions, few enough that an object stays below its 512 calls. */
    private static String tell(Invoicebridge x, int group, int invoices) {
        StringBuilder text = new StringBuilder();
        if (group < invoices) {
            tellInvoice(x, group, text);
        } else if (group == invoices) {
            tellCompanies(x, text);
        } else if (group == invoices + 1) {
            tellDraft(x, text);
        } else if (group == invoices + 2) {
            tellTax(x, text);
        } else {
            tellWhatIsLeft(x, text);
        }
        return text.toString();
    }

    private static void tellInvoice(Invoicebridge x, int invoice, StringBuilder text) {
        for (int what = 0; what <= 9; what++) {
            int w = what;
            add(text, "about" + what, x, y -> y.about(invoice, w));
        }
        for (int line = 0; line <= 2; line++) {
            for (int what = 0; what <= 4; what++) {
                int l = line;
                int w = what;
                add(text, "line" + line + what, x, y -> y.lineOf(invoice, l, w));
            }
        }
        // What is behind the answers: the price and the recourse, the credits, what can be added.
        add(text, "addLine", x, y -> y.addLine(invoice, 1, 0));
        add(text, "giveBack", x, y -> y.giveBack(invoice));
        add(text, "accept", x, y -> y.accept(invoice));
        add(text, "credit", x, y -> y.credit(invoice, 0, 1));
        add(text, "settle", x, y -> y.settle(invoice, 0, false));
    }

    private static void tellCompanies(Invoicebridge x, StringBuilder text) {
        add(text, "day", x, Invoicebridge::day);
        for (int company = 0; company < 6; company++) {
            int c = company;
            add(text, "cash", x, y -> y.cash(c));
            add(text, "cashAnew", x, y -> y.cashAnew(c));
            add(text, "owedTo", x, y -> y.owedTo(c));
            add(text, "owes", x, y -> y.owes(c));
        }
        for (int goods = 0; goods < 8; goods++) {
            int g = goods;
            add(text, "chain", x, y -> y.chain(g));
        }
    }

    /** The first months, and the last ones up to the first that is not there. */
    private static void tellTax(Invoicebridge x, StringBuilder text) {
        int now = x.day() / 30;
        for (int month = 0; month <= now + 1; month++) {
            int m = month;
            for (int company = 0; company < 6 && (month < 6 || month >= now - 1); company++) {
                int c = company;
                add(text, "tax", x, y -> y.tax(c, m));
                add(text, "carried", x, y -> y.carried(c, m));
            }
        }
    }

    private static void tellDraft(Invoicebridge x, StringBuilder text) {
        add(text, "fault", x, Invoicebridge::fault);
        for (int payer = 0; payer < 6; payer++) {
            for (int to = 0; to < 6; to++) {
                int p = payer;
                int t = to;
                add(text, "payByText", x, y -> y.payByText(p, t, 1));
            }
        }
        add(text, "clear", x, Invoicebridge::clear);
    }

    /** How many invoices, credits and days can still come; credits of a new invoice, if there can be one. */
    private static void tellWhatIsLeft(Invoicebridge x, StringBuilder text) {
        String sent = answer(y -> y.send(0, 1, 0, 100, 0), x);
        text.append("send=").append(sent).append(' ');
        int credited = sent.startsWith("throws") ? 0 : Integer.parseInt(sent);
        for (int i = 0; i < 25; i++) {
            add(text, "credit", x, y -> y.credit(credited, 0, 1));
        }
        for (int i = 0; i < 20; i++) {
            add(text, "send", x, y -> y.send(0, 1, 0, 100, 0));
        }
        for (int i = 0; i < 34; i++) {
            add(text, "pass", x, y -> y.pass(31));
        }
    }

    private static void add(StringBuilder text, String name, Invoicebridge x, Call call) {
        text.append(name).append('=').append(answer(call, x)).append(' ');
    }
}
