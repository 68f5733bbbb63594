import java.util.ArrayList;
import java.util.List;

/**
 * Long runs of calls, each answer compared with that of a model that holds nothing but the list of
 * what happened, and finds every answer anew from it. The runs are the same each time.
 */
public final class ModelTest {
    private static final Check check = new Check("ModelTest");
    private static final int RUNS = 1500;
    private static final int CALLS = 512;

    private long seed;

    private ModelTest(long seed) {
        this.seed = seed;
    }

    public static void main(String[] args) {
        for (int run = 0; run < RUNS; run++) {
            new ModelTest(run * 7919L + 1).compare(run);
        }
        check.end();
    }

    private void compare(int run) {
        Invoicebridge x = new Invoicebridge();
        Model model = new Model();
        int companies = below(2) == 0 ? 6 : 3;
        int rarePass = 1 + below(12);
        for (int call = 0; call < CALLS; call++) {
            String[] answers = one(x, model, companies, rarePass);
            check.due("run " + run + ", call " + call + ": " + answers[0], answers[1], answers[2]);
        }
    }

    private int below(int bound) {
        seed = seed * 6364136223846793005L + 1442695040888963407L;
        return (int) ((seed >>> 33) % bound);
    }

    private int wild(int usual, int bound) {
        return below(40) == 0 ? below(bound + 3) - 1 : usual;
    }

    private int amount() {
        int kind = below(10);
        return kind == 0 ? below(10002) : kind < 4 ? 1 + below(5) : kind < 6 ? 100 : 1 + below(2000);
    }

    private int rate() {
        int kind = below(30);
        return kind == 0 ? below(25) : kind < 5 ? 0 : kind < 15 ? 7 : 19;
    }

    private String[] one(Invoicebridge x, Model m, int companies, int rarePass) {
        int i = wild(below(Math.max(1, m.sent.size())), 20);
        int c = wild(below(companies), 6);
        int d = wild(below(companies), 6);
        int line = below(2) == 0 ? 0 : below(3);
        switch (below(26)) {
            case 0: case 1: {
                int g = wild(below(2), 8);
                int a = amount();
                int r = rate();
                return both("send " + c + " " + d, y -> y.send(c, d, g, a, r), () -> m.send(c, d, g, a, r), x);
            }
            case 2: {
                int a = amount();
                int r = rate();
                return both("addLine " + i, y -> y.addLine(i, a, r), () -> m.addLine(i, a, r), x);
            }
            case 3: return both("accept " + i, y -> y.accept(i), () -> m.accept(i), x);
            case 4:
                return below(4) == 0 ? both("refuse " + i, y -> y.refuse(i), () -> m.refuse(i), x)
                        : both("accept " + i, y -> y.accept(i), () -> m.accept(i), x);
            case 5: {
                int a = amount();
                return below(2) == 0 ? both("credit " + i + " " + line + " " + a, y -> y.credit(i, line, a), () -> m.credit(i, line, a), x)
                        : both("about", y -> y.about(i, 4), () -> m.about(i, 4), x);
            }
            case 6: return both("dispute " + i + " " + line, y -> y.dispute(i, line), () -> m.dispute(i, line), x);
            case 7: {
                boolean right = below(2) == 0;
                return both("settle " + i + " " + line, y -> y.settle(i, line, right), () -> m.settle(i, line, right), x);
            }
            case 8: case 9: {
                int part = wild(1 + below(100), 101);
                boolean recourse = below(3) > 0;
                return both("sell " + i + " " + c, y -> y.sell(i, c, part, recourse), () -> m.sell(i, c, part, recourse), x);
            }
            case 10: return both("giveBack " + i, y -> y.giveBack(i), () -> m.giveBack(i), x);
            case 11: case 12: case 13: {
                String usual = "R" + (char) ('0' + below(2)) + (char) ('0' + below(10));
                int sign = below(15) == 0 ? 28 + below(103) : usual.charAt(Math.min(m.draft.length(), 2));
                return both("type " + sign, y -> y.type(sign), () -> m.type(sign), x);
            }
            case 14:
                return below(3) == 0 ? both("clear", Invoicebridge::clear, m::clear, x) : both("fault", Invoicebridge::fault, m::fault, x);
            case 15: case 16: {
                int number = m.fault() == -1 ? Integer.parseInt(m.draft.substring(1)) : i;
                int[] p = payment(m, number, c, d);
                return both("payByText " + m.draft, y -> y.payByText(p[0], p[1], p[2]), () -> m.payByText(p[0], p[1], p[2]), x);
            }
            case 17: {
                int[] p = payment(m, i, c, d);
                return both("payBySum " + p[0] + " " + p[1] + " " + p[2], y -> y.payBySum(p[0], p[1], p[2]), () -> m.payBySum(p[0], p[1], p[2]), x);
            }
            case 18: {
                int days = below(rarePass) == 0 ? below(63) : 1 + below(3);
                return both("pass " + days, y -> y.pass(days), () -> m.pass(days), x);
            }
            case 19: {
                int what = wild(below(10), 10);
                return both("about " + i + " " + what, y -> y.about(i, what), () -> m.about(i, what), x);
            }
            case 20: {
                int what = wild(below(5), 5);
                return both("lineOf " + i + " " + line + " " + what, y -> y.lineOf(i, line, what), () -> m.lineOf(i, line, what), x);
            }
            case 21:
                return below(2) == 0 ? both("cash " + c, y -> y.cash(c), () -> m.cash(c), x) : both("cashAnew " + c, y -> y.cashAnew(c), () -> m.cash(c), x);
            case 22:
                return below(2) == 0 ? both("owes " + c, y -> y.owes(c), () -> m.owes(c), x) : both("owedTo " + c, y -> y.owedTo(c), () -> m.owedTo(c), x);
            case 23: {
                int month = wild(below(m.today / 30 + 1), 34);
                return both("tax " + c + " " + month, y -> y.tax(c, month), () -> m.tax(c, month), x);
            }
            case 24: {
                int month = wild(below(m.today / 30 + 1), 34);
                return both("carried " + c + " " + month, y -> y.carried(c, month), () -> m.carried(c, month), x);
            }
            default: {
                int g = wild(below(2), 8);
                return below(4) == 0 ? both("day", Invoicebridge::day, () -> m.today, x) : both("chain " + g, y -> y.chain(g), () -> m.chain(g), x);
            }
        }
    }

    /** A payer, a payee and cents, most often such that the invoice can be paid so. */
    private int[] payment(Model m, int number, int c, int d) {
        if (number < 0 || number >= m.sent.size() || below(10) == 0) {
            return new int[] {c, d, below(3) == 0 ? below(100003) - 1 : below(500)};
        }
        int owed = m.owed(number);
        int cents = below(4) == 0 ? 1 + below(Math.max(1, owed)) : owed + (below(12) == 0 ? below(3) - 1 : 0);
        return new int[] {m.sent.get(number)[1], m.holder(number), cents};
    }

    private interface Answer {
        int get();
    }

    private static String[] both(String what, Check.Call call, Answer due, Invoicebridge x) {
        String got = Check.answer(call, x);
        return new String[] {what, got, Check.answer(y -> due.get(), x)};
    }

    /** All that happened, in lists of numbers; whatever is asked is found anew from them. */
    private static final class Model {
        /** {seller, buyer, goods, day} of each invoice. */
        final List<int[]> sent = new ArrayList<>();
        /** {invoice, amount, rate} of each line, as it was made. */
        final List<int[]> lines = new ArrayList<>();
        /** {invoice, 1 accepted or 2 refused, day}. */
        final List<int[]> answers = new ArrayList<>();
        /** {invoice, line, amount, day}. */
        final List<int[]> credits = new ArrayList<>();
        /** {invoice, line, 1 disputed or 0 settled}. */
        final List<int[]> disputes = new ArrayList<>();
        /** {invoice, from, to, cents, 0 payment or 1 sale or 2 recourse, 1 if with recourse}. */
        final List<int[]> moves = new ArrayList<>();
        String draft = "";
        int today = 0;

        static void index(boolean isRight) {
            if (!isRight) {
                throw new IndexOutOfBoundsException();
            }
        }

        static void argument(boolean isRight) {
            if (!isRight) {
                throw new IllegalArgumentException();
            }
        }

        static void state(boolean isRight) {
            if (!isRight) {
                throw new IllegalStateException();
            }
        }

        static boolean isIn(int number, int least, int most) {
            return least <= number && number <= most;
        }

        static void rate(int rate) {
            argument(rate == 0 || rate == 7 || rate == 19);
        }

        void invoice(int i) {
            index(isIn(i, 0, sent.size() - 1));
        }

        int send(int seller, int buyer, int goods, int amount, int rate) {
            index(isIn(seller, 0, 5) && isIn(buyer, 0, 5) && isIn(goods, 0, 7));
            argument(isIn(amount, 1, 9999) && seller != buyer);
            rate(rate);
            state(sent.size() < 20);
            sent.add(new int[] {seller, buyer, goods, today});
            lines.add(new int[] {sent.size() - 1, amount, rate});
            return sent.size() - 1;
        }

        int addLine(int i, int amount, int rate) {
            invoice(i);
            argument(isIn(amount, 1, 9999));
            rate(rate);
            state(answer(i) == 0 && sent.get(i)[3] == today && linesOf(i).size() < 3);
            for (int[] credit : credits) {
                state(credit[0] != i);
            }
            lines.add(new int[] {i, amount, rate});
            return linesOf(i).size() - 1;
        }

        int accept(int i) {
            invoice(i);
            state(answer(i) == 0);
            answers.add(new int[] {i, 1, today});
            return owed(i);
        }

        int refuse(int i) {
            invoice(i);
            state(answer(i) == 0);
            answers.add(new int[] {i, 2, today});
            return about(i, 4);
        }

        int credit(int i, int line, int amount) {
            invoice(i);
            index(isIn(line, 0, linesOf(i).size() - 1));
            argument(isIn(amount, 1, Math.min(9999, amount(i, line, credits.size()))));
            state(answer(i) != 2 && credits.size() < 24);
            credits.add(new int[] {i, line, amount, today});
            return amount(i, line, credits.size());
        }

        int dispute(int i, int line) {
            invoice(i);
            index(isIn(line, 0, linesOf(i).size() - 1));
            state(answer(i) == 1 && !isDisputed(i, line) && amount(i, line, credits.size()) > 0);
            disputes.add(new int[] {i, line, 1});
            return owed(i);
        }

        int settle(int i, int line, boolean isRight) {
            invoice(i);
            index(isIn(line, 0, linesOf(i).size() - 1));
            state(isDisputed(i, line) && !(isRight && credits.size() == 24));
            disputes.add(new int[] {i, line, 0});
            if (isRight) {
                credits.add(new int[] {i, line, amount(i, line, credits.size()), today});
            }
            return owed(i);
        }

        int sell(int i, int to, int part, boolean isRecourse) {
            index(isIn(i, 0, sent.size() - 1) && isIn(to, 0, 5));
            argument(isIn(part, 1, 100) && to != sent.get(i)[0] && to != sent.get(i)[1]);
            state(answer(i) == 1 && owed(i) > 0 && holder(i) == sent.get(i)[0]);
            int price = (int) Math.floor(owed(i) * (double) part / 100 + 1e-9);
            moves.add(new int[] {i, to, sent.get(i)[0], price, 1, isRecourse ? 1 : 0});
            return price;
        }

        int giveBack(int i) {
            invoice(i);
            int[] sale = lastSale(i);
            state(sale != null && sale[4] == 1 && sale[5] == 1 && owed(i) > 0);
            moves.add(new int[] {i, sale[2], sale[1], sale[3], 2, 0});
            return sale[3];
        }

        int[] lastSale(int i) {
            int[] last = null;
            for (int[] move : moves) {
                if (move[0] == i && move[4] > 0) {
                    last = move;
                }
            }
            return last;
        }

        int holder(int i) {
            int[] last = lastSale(i);
            return last == null || last[4] == 2 ? sent.get(i)[0] : last[1];
        }

        int type(int sign) {
            argument(isIn(sign, 32, 126));
            state(draft.length() < 10);
            draft += (char) sign;
            return draft.length();
        }

        int clear() {
            int length = draft.length();
            draft = "";
            return length;
        }

        int fault() {
            if (draft.matches("R[0-9]{1,2}")) {
                return -1;
            }
            int good = 0;
            while (good < draft.length() && draft.substring(0, good + 1).matches("R[0-9]{0,2}")) {
                good++;
            }
            return good;
        }

        void payment(int payer, int to, int cents) {
            index(isIn(payer, 0, 5) && isIn(to, 0, 5));
            argument(isIn(cents, 1, 99999) && payer != to);
        }

        int payByText(int payer, int to, int cents) {
            payment(payer, to, cents);
            state(fault() == -1);
            int i = Integer.parseInt(draft.substring(1));
            state(i < sent.size());
            state(sent.get(i)[1] == payer && holder(i) == to && cents <= owed(i));
            moves.add(new int[] {i, payer, to, cents, 0, 0});
            draft = "";
            return i;
        }

        int payBySum(int payer, int to, int cents) {
            payment(payer, to, cents);
            for (int i = 0; i < sent.size(); i++) {
                if (sent.get(i)[1] == payer && holder(i) == to && owed(i) == cents) {
                    moves.add(new int[] {i, payer, to, cents, 0, 0});
                    return i;
                }
            }
            throw new IllegalStateException();
        }

        int pass(int days) {
            argument(isIn(days, 1, 60));
            state(today + days < 1000);
            today += days;
            return today / 30;
        }

        int answer(int i) {
            for (int[] answer : answers) {
                if (answer[0] == i) {
                    return answer[1];
                }
            }
            return 0;
        }

        List<int[]> linesOf(int i) {
            List<int[]> found = new ArrayList<>();
            for (int[] line : lines) {
                if (line[0] == i) {
                    found.add(line);
                }
            }
            return found;
        }

        /** The amount of a line behind so many of the credits. */
        int amount(int i, int line, int behind) {
            int amount = linesOf(i).get(line)[1];
            for (int[] credit : credits.subList(0, behind)) {
                amount -= credit[0] == i && credit[1] == line ? credit[2] : 0;
            }
            return amount;
        }

        int taxOfLine(int i, int line, int behind) {
            return amount(i, line, behind) * linesOf(i).get(line)[2] / 100;
        }

        boolean isDisputed(int i, int line) {
            boolean is = false;
            for (int[] dispute : disputes) {
                is = dispute[0] == i && dispute[1] == line ? dispute[2] == 1 : is;
            }
            return is;
        }

        int taxOfInvoice(int i, int behind) {
            int sum = 0;
            for (int line = 0; line < linesOf(i).size(); line++) {
                sum += taxOfLine(i, line, behind);
            }
            return sum;
        }

        int paid(int i) {
            int sum = 0;
            for (int[] move : moves) {
                sum += move[0] == i && move[4] == 0 ? move[3] : 0;
            }
            return sum;
        }

        int cost(int i, boolean isWithDisputed) {
            int sum = 0;
            for (int line = 0; line < linesOf(i).size(); line++) {
                if (isWithDisputed || !isDisputed(i, line)) {
                    sum += amount(i, line, credits.size()) + taxOfLine(i, line, credits.size());
                }
            }
            return sum;
        }

        int owed(int i) {
            return answer(i) == 1 ? Math.max(0, cost(i, false) - paid(i)) : 0;
        }

        int about(int i, int what) {
            invoice(i);
            argument(isIn(what, 0, 9));
            int[] of = sent.get(i);
            return new int[] {answer(i), of[0], of[1], holder(i), cost(i, true), owed(i), paid(i),
                linesOf(i).size(), of[3], taxOfInvoice(i, credits.size())}[what];
        }

        int lineOf(int i, int line, int what) {
            invoice(i);
            index(isIn(line, 0, linesOf(i).size() - 1));
            argument(isIn(what, 0, 4));
            int[] of = linesOf(i).get(line);
            return new int[] {amount(i, line, credits.size()), of[2], taxOfLine(i, line, credits.size()),
                isDisputed(i, line) ? 1 : 0, of[1]}[what];
        }

        int cash(int c) {
            index(isIn(c, 0, 5));
            int sum = 0;
            for (int[] move : moves) {
                sum += (move[2] == c ? move[3] : 0) - (move[1] == c ? move[3] : 0);
            }
            return sum;
        }

        int owedTo(int c) {
            index(isIn(c, 0, 5));
            int sum = 0;
            for (int i = 0; i < sent.size(); i++) {
                sum += holder(i) == c ? owed(i) : 0;
            }
            return sum;
        }

        int owes(int c) {
            index(isIn(c, 0, 5));
            int sum = 0;
            for (int i = 0; i < sent.size(); i++) {
                sum += sent.get(i)[1] == c ? owed(i) : 0;
            }
            return sum;
        }

        int tax(int c, int month) {
            index(isIn(c, 0, 5) && isIn(month, 0, today / 30));
            return Math.max(0, month(c, month));
        }

        int carried(int c, int month) {
            index(isIn(c, 0, 5) && isIn(month, 0, today / 30));
            return Math.min(0, month(c, month));
        }

        int month(int c, int month) {
            int sum = month == 0 ? 0 : Math.min(0, month(c, month - 1));
            for (int i = 0; i < sent.size(); i++) {
                if (sent.get(i)[0] == c && sent.get(i)[3] / 30 == month && answer(i) != 2) {
                    sum += taxOfInvoice(i, 0);
                }
            }
            for (int[] answer : answers) {
                if (answer[1] == 1 && answer[2] / 30 == month && sent.get(answer[0])[1] == c) {
                    sum -= taxOfInvoice(answer[0], 0);
                }
            }
            for (int k = 0; k < credits.size(); k++) {
                int[] credit = credits.get(k);
                int less = taxOfLine(credit[0], credit[1], k) - taxOfLine(credit[0], credit[1], k + 1);
                int state = answer(credit[0]);
                if (credit[3] / 30 == month) {
                    sum -= sent.get(credit[0])[0] == c && state != 2 ? less : 0;
                    sum += sent.get(credit[0])[1] == c && state == 1 ? less : 0;
                }
            }
            return sum;
        }

        int chain(int g) {
            index(isIn(g, 0, 7));
            int sum = 0;
            for (int i = 0; i < sent.size(); i++) {
                if (answer(i) == 1 && sent.get(i)[2] == g) {
                    int best = 0;
                    for (int j = 0; j < i; j++) {
                        if (answer(j) == 1 && sent.get(j)[2] == g && sent.get(j)[1] == sent.get(i)[0]) {
                            best = Math.max(best, taxOfInvoice(j, credits.size()));
                        }
                    }
                    sum += Math.max(0, taxOfInvoice(i, credits.size()) - best);
                }
            }
            return sum;
        }
    }
}
