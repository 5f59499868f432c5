/** Promises 28 to 30: accounts. */
public final class AccountsTest {
    private static final int[] OUTSIDE = {-1, Integer.MIN_VALUE, Integer.MAX_VALUE};

    public static void main(String[] args) {
        promise28();
        promise29();
        promise30();
        Check.end();
    }

    private static void accounts(VisitBooking x, int... numbers) {
        for (int k = 0; k < numbers.length; k++) {
            int what = k;
            Check.due("28: account " + k, () -> x.account(what), numbers[what]);
        }
    }

    private static void promise28() {
        VisitBooking x = new VisitBooking();
        x.addInmate(0, 2);
        x.addInmate(3, 2);
        x.addVisitor(0);
        x.addVisitor(1);
        x.addVisitor(2);
        x.addRoom(0, 2, false);
        x.addRoom(1, 3, false);
        x.addRoom(1, 3, true);
        x.addRoom(0, 3, true);
        x.book(0, 3, 0, 0);
        x.book(1, 3, 1, 0);
        x.book(1, 4, 2, 0);
        x.book(0, 7, 3, 0);
        x.ban(0, 0, 0, 3, 3);
        x.ban(1, 1, 2, 9, 9);
        x.wish(0, 1, 5, 6);
        accounts(x, 0, 4, 3, 0, 1, 2, 3, 4, 2, 1, 1, 5, 4);
        x.pass(1);
        accounts(x, 1, 4, 2, 1, 1, 2, 3, 4, 2, 1, 1, 3, 4);
        x.confine(1, true);
        accounts(x, 1, 4, 2, 1, 1, 2, 3, 4, 2, 1, 3, 0, 4);
        x.move(1, 0);
        accounts(x, 1, 4, 2, 1, 1, 2, 3, 4, 2, 1, 5, 0, 0);
        x.cancel(1);
        accounts(x, 1, 5, 2, 1, 2, 2, 3, 4, 2, 0, 6, 1, 0);
        Check.fails("28: account 13", () -> x.account(13), IllegalArgumentException.class);
        for (int odd : OUTSIDE) {
            Check.fails("28: account " + odd, () -> x.account(odd), IllegalArgumentException.class);
        }
    }

    private static void promise29() {
        VisitBooking x = new VisitBooking();
        Check.fails("29: no visits", () -> x.meanDistance(), ArithmeticException.class);
        x.addInmate(0, 2);
        x.addVisitor(2);
        x.addRoom(0, 1, true);
        x.addRoom(2, 1, true);
        x.book(0, 1, 0, 0);
        Check.due("29: no distance", () -> x.meanDistance(), 0.0);
        x.setOpen(0, false);
        x.setOpen(0, true);
        Check.due("29: a distance of 2", () -> x.meanDistance(), 2.0);
        x.book(0, 1, 1, 0);
        Check.due("29: the mean", () -> x.meanDistance(), 1.0);
        x.book(0, 1, 2, 0);
        Check.due("29: a double", () -> x.meanDistance(), 2.0 / 3.0);
        x.pass(2);
        Check.due("29: held ones are not booked", () -> x.meanDistance(), 0.0);
        x.cancel(2);
        Check.fails("29: none are booked", () -> x.meanDistance(), ArithmeticException.class);
    }

    private static void promise30() {
        VisitBooking x = new VisitBooking();
        Check.fails("30: no inmates", () -> x.use(0), ArithmeticException.class);
        Check.fails("30: week 8 ahead of that", () -> x.use(8), IllegalArgumentException.class);
        x.addInmate(0, 2);
        x.addInmate(0, 1);
        x.addInmate(0, 0);
        x.addVisitor(0);
        x.addVisitor(2);
        x.addRoom(0, 2, true);
        Check.due("30: no visits", () -> x.use(7), 0.0f);
        x.book(0, 1, 0, 0);
        x.book(1, 3, 6, 0);
        x.book(2, 2, 6, 1);
        x.book(0, 1, 7, 0);
        x.book(0, 1, 55, 0);
        Check.due("30: two of six", () -> x.use(0), 2.0f / 6.0f);
        Check.due("30: the next week", () -> x.use(1), 1.0f / 6.0f);
        Check.due("30: the last week", () -> x.use(7), 1.0f / 6.0f);
        Check.due("30: another week", () -> x.use(2), 0.0f);
        x.pass(1);
        Check.due("30: held ones count", () -> x.use(0), 2.0f / 6.0f);
        x.cancel(1);
        Check.due("30: cancelled ones do not", () -> x.use(0), 1.0f / 6.0f);
        x.setLevel(1, 0);
        Check.due("30: another level", () -> x.use(0), 1.0f / 5.0f);
        x.set(0, 0);
        Check.due("30: another quota", () -> x.use(0), 1.0f / 3.0f);
        x.setLevel(0, 0);
        Check.fails("30: no quotas", () -> x.use(0), ArithmeticException.class);
        x.set(0, 1);
        x.set(1, 0);
        x.setLevel(1, 1);
        x.setLevel(2, 1);
        Check.due("30: more than 1 is fine", () -> x.use(7), 1.0f);
        for (int odd : OUTSIDE) {
            Check.fails("30: week " + odd, () -> x.use(odd), IllegalArgumentException.class);
        }
    }
}
