/** All that the readers of a desk tell, but for its report, as one text. */
final class Views {
    private static final int ACCOUNTS = 13;

    private Views() {
    }

    static String all(VisitBooking x) {
        StringBuilder text = new StringBuilder();
        accounts(x, text);
        for (int one = 0; one < 60; one++) {
            for (int two = 0; two < 8; two++) {
                row(x, text, one, two);
            }
        }
        for (int moment = 0; moment < 224; moment++) {
            slot(x, text, moment / 4, moment % 4);
        }
        uses(x, text, 3);
        return text.toString();
    }

    /** The same, asked for no more than there is, so that a desk with some visits is asked few calls. */
    static String brief(VisitBooking x) {
        StringBuilder text = new StringBuilder();
        accounts(x, text);
        table(text, x.account(5), 5, (one, two) -> x.inmate(one, two));
        table(text, x.account(5), x.account(7), (one, two) -> x.ordered(one, two));
        table(text, x.account(7), 5, (one, two) -> x.room(one, two));
        table(text, x.account(1), 8, (one, two) -> x.visit(one, two));
        table(text, x.account(8), 5, (one, two) -> x.banned(one, two));
        table(text, x.account(9), 4, (one, two) -> x.wished(one, two));
        table(text, x.account(10), 2, (one, two) -> x.notice(one, two == 1));
        table(text, x.account(2), 1, (one, two) -> x.next(one));
        for (int visit = 0; visit < x.account(1); visit++) {
            slot(x, text, x.visit(visit, 2), x.visit(visit, 3));
        }
        uses(x, text, 8);
        text.append(Check.outcome(() -> x.meanDistance())).append('\n');
        return text.toString();
    }

    private interface Reader {
        int read(int one, int two);
    }

    private static void table(StringBuilder text, int rows, int width, Reader reader) {
        for (int one = 0; one < rows; one++) {
            for (int two = 0; two < width; two++) {
                text.append(reader.read(one, two)).append(' ');
            }
        }
        text.append('\n');
    }

    private static void accounts(VisitBooking x, StringBuilder text) {
        for (int what = 0; what < ACCOUNTS; what++) {
            text.append(x.account(what)).append(what < ACCOUNTS - 1 ? ' ' : '\n');
        }
    }

    private static void slot(VisitBooking x, StringBuilder text, int day, int slot) {
        text.append(x.slot(day, slot, true)).append('/');
        text.append(x.slot(day, slot, false)).append(' ');
    }

    private static void uses(VisitBooking x, StringBuilder text, int weeks) {
        for (int k = 0; k < weeks; k++) {
            // The quotas can be read only by setting them, which would be a change; the use tells their sum.
            int week = k;
            text.append(Check.outcome(() -> x.use(week))).append(' ');
        }
    }

    private static void row(VisitBooking x, StringBuilder text, int one, int two) {
        boolean isYes = two % 2 == 0;
        Check.Call[] calls = {() -> x.inmate(one, two), () -> x.room(one, two), () -> x.ordered(one, two),
            () -> x.visit(one, two), () -> x.banned(one, two), () -> x.wished(one, two)};
        for (Check.Call call : calls) {
            String answer = Check.outcome(call);
            text.append(answer.startsWith("throws") ? "-" : answer).append(' ');
        }
        if (two < 2) {
            text.append(Check.outcome(() -> x.notice(one, isYes))).append(' ');
            text.append(Check.outcome(() -> x.next(one))).append('\n');
        }
    }
}
