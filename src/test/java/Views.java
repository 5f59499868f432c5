/** All that the readers of a desk tell, but for its report, as one text. */
final class Views {
    private Views() {
    }

    static String all(VisitBooking x) {
        StringBuilder text = new StringBuilder();
        for (int what = 0; what < 13; what++) {
            text.append(x.account(what)).append(what < 12 ? ' ' : '\n');
        }
        for (int one = 0; one < 60; one++) {
            for (int two = 0; two < 8; two++) {
                row(x, text, one, two);
            }
        }
        for (int moment = 0; moment < 224; moment++) {
            text.append(x.slot(moment / 4, moment % 4, true)).append('/');
            text.append(x.slot(moment / 4, moment % 4, false)).append(' ');
        }
        for (int level = 0; level < 3; level++) {
            // The quotas can be read only by setting them, which would be a change; the use tells their sum.
            int week = level;
            text.append(Check.outcome(() -> x.use(week))).append(' ');
        }
        return text.toString();
    }

    private static void row(VisitBooking x, StringBuilder text, int one, int two) {
        boolean isYes = two % 2 == 0;
        Check.Call[] calls = {() -> x.inmate(one, two), () -> x.room(one, two), () -> x.ordered(one, two),
            () -> x.visit(one, two), () -> x.banned(one, two), () -> x.wished(one, two)};
        for (Check.Call call : calls) {
            String answer = Check.outcome(call);
            text.append(answer.startsWith("throws") ? "-" : answer).append(' ');
        }
        if (two < 2) {
            text.append(Check.outcome(() -> x.notice(one, isYes))).append(' ');
            text.append(Check.outcome(() -> x.next(one))).append('\n');
        }
    }
}
