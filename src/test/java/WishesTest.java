import java.util.NoSuchElementException;

/** Promises 24 to 27: wishes, notices, reports. */
public final class WishesTest {
    private static final int[] OUTSIDE = {-1, Integer.MIN_VALUE, Integer.MAX_VALUE};

    public static void main(String[] args) {
        promise24();
        promise24PresentDay();
        promise25();
        promise26();
        promise27();
        Check.end();
    }

    private static VisitBooking desk() {
        VisitBooking x = new VisitBooking();
        x.addInmate(0, 2);
        x.addInmate(1, 2);
        x.addVisitor(0);
        x.addVisitor(1);
        x.addVisitor(2);
        x.addVisitor(2);
        x.addRoom(0, 3, true);
        return x;
    }

    private static void wrong(VisitBooking x, int inmate, int visitors, int first, int last) {
        Check.fails("24: wish(" + inmate + ", " + visitors + ", " + first + ", " + last + ")",
                () -> x.wish(inmate, visitors, first, last), IllegalArgumentException.class);
    }

    private static void promise24() {
        VisitBooking x = desk();
        int[] sets = {0, 15, 16, 17, 1 << 31, -1, Integer.MAX_VALUE};
        for (int set : sets) {
            wrong(x, 0, set, 0, 0);
        }
        wrong(x, 0, 1, 5, 4);
        wrong(x, 0, 1, 0, 56);
        wrong(x, 0, 1, 56, 56);
        for (int odd : OUTSIDE) {
            wrong(x, 0, 1, odd, 55);
            wrong(x, 0, 1, 0, odd);
            Check.fails("24: inmate " + odd, () -> x.wish(odd, 1, 0, 0), IndexOutOfBoundsException.class);
        }
        Check.fails("24: no such inmate", () -> x.wish(2, 0, 5, 4), IndexOutOfBoundsException.class);
        x.pass(3);
        wrong(x, 0, 1, 0, 2);
        Check.due("24: no wishes", () -> x.account(9), 0);
        Check.due("24: until the present day", () -> x.wish(0, 1, 0, 3), 1);
        Check.due("24: the whole time", () -> x.wish(1, 7, 0, 55), 2);
        for (int k = 3; k <= 6; k++) {
            int number = k;
            Check.due("24: a day", () -> x.wish(1, 2, 55, 55), number);
        }
        Check.fails("24: a seventh", () -> x.wish(0, 1, 5, 6), IllegalStateException.class);
        wrong(x, 0, 1, 0, 2);
        Check.fails("24: no such inmate", () -> x.wish(2, 1, 5, 6), IndexOutOfBoundsException.class);
        Check.due("24: nothing is booked", () -> x.account(1), 0);
        Check.due("24: a change", () -> x.undo(), 7);
        Check.due("24: taken back", () -> x.account(9), 5);
    }

    private static void promise24PresentDay() {
        VisitBooking x = desk();
        x.pass(4);
        x.setOpen(0, false);
        x.wish(0, 1, 0, 9);
        x.wish(1, 1, 4, 4);
        x.wish(1, 8, 4, 4);
        x.wish(1, 4, 4, 5);
        x.wish(0, 8, 4, 5);
        Check.due("24: all are booked", () -> x.setOpen(0, true), 5);
        int[] moments = {16, 17, 18, 19, 20};
        for (int k = 0; k < 5; k++) {
            int visit = k;
            Check.due("24: from the present day on", () -> x.visit(visit, 2) * 4 + x.visit(visit, 3), moments[visit]);
        }
        x.wish(0, 4, 4, 4);
        x.wish(1, 8, 5, 5);
        x.wish(1, 8, 5, 5);
        Check.due("24: those that can be", () -> x.cancel(4), 2);
        Check.due("24: the first one waits", () -> x.wished(0, 0), 0);
        Check.due("24: the second one", () -> x.visit(5, 3), 0);
        Check.due("24: each one is looked at once", () -> x.visit(6, 3), 1);
        Check.fails("24: no report", () -> x.report(0, false), NoSuchElementException.class);
    }

    private static void promise25() {
        VisitBooking x = desk();
        x.wish(0, 3, 1, 55);
        x.wish(1, 4, 0, 0);
        int[][] numbers = {{0, 3, 1, 55}, {1, 4, 0, 0}};
        for (int w = 0; w < 2; w++) {
            for (int k = 0; k < 4; k++) {
                int wish = w;
                int what = k;
                Check.due("25: number " + k + " of " + w, () -> x.wished(wish, what), numbers[wish][what]);
            }
        }
        Check.fails("25: no such wish", () -> x.wished(2, 0), IndexOutOfBoundsException.class);
        Check.fails("25: no such wish, nor number", () -> x.wished(2, 4), IndexOutOfBoundsException.class);
        Check.fails("25: no such number", () -> x.wished(0, 4), IllegalArgumentException.class);
        for (int odd : OUTSIDE) {
            Check.fails("25: wish " + odd, () -> x.wished(odd, 0), IndexOutOfBoundsException.class);
            Check.fails("25: what " + odd, () -> x.wished(0, odd), IllegalArgumentException.class);
        }
    }

    private static void promise26() {
        VisitBooking x = desk();
        Check.fails("26: no notices", () -> x.notice(0, true), NoSuchElementException.class);
        x.addRoom(3, 3, true);
        for (int day = 0; day < 11; day++) {
            x.book(0, 4, day, 0);
        }
        Check.due("26: all get another room", () -> x.move(0, 3), 11);
        Check.due("26: 11 are kept", () -> x.account(10), 11);
        Check.fails("26: place 11", () -> x.notice(11, false), NoSuchElementException.class);
        Check.due("26: all get another room", () -> x.move(0, 0), 11);
        Check.due("26: 20 are kept", () -> x.account(10), 20);
        Check.due("26: the oldest one", () -> x.notice(0, false), 2);
        Check.due("26: the latest one", () -> x.notice(19, false), 10);
        Check.fails("26: place 20", () -> x.notice(20, false), NoSuchElementException.class);
        x.setOpen(1, false);
        for (int day = 11; day < 24; day++) {
            x.book(0, 4, day, 0);
        }
        Check.due("26: more than are kept", () -> x.setOpen(0, false), 24);
        Check.due("26: the oldest one", () -> x.notice(0, false), 4);
        Check.due("26: its kind", () -> x.notice(0, true), 2);
        x.wish(0, 1, 30, 30);
        Check.due("26: a wish", () -> x.setOpen(1, true), 1);
        Check.due("26: kind 3", () -> x.notice(19, true), 3);
        Check.due("26: the visit", () -> x.notice(19, false), 24);
        Check.due("26: a ban", () -> x.ban(0, 0, 0, 30, 30), 1);
        Check.due("26: kind 1", () -> x.notice(19, true), 1);
        Check.due("26: the others are older", () -> x.notice(18, true), 3);
        for (int odd : OUTSIDE) {
            Check.fails("26: notice " + odd, () -> x.notice(odd, true), NoSuchElementException.class);
        }
    }

    private static void promise27() {
        VisitBooking x = desk();
        Check.fails("27: no report", () -> x.report(0, false), NoSuchElementException.class);
        x.confine(1, true);
        x.book(0, 1, 2, 3);
        Check.fails("27: refused", () -> x.book(1, 2, 2, 3), UnsupportedOperationException.class);
        int[][] levels = {{1, 11}, {6, 0}};
        reported(x, levels);
        x.cancel(0);
        x.undo();
        x.save();
        x.restore();
        x.book(1, 2, 3, 3);
        Check.fails("27: a wrong call", () -> x.book(1, 0, 3, 3), IllegalArgumentException.class);
        Check.fails("27: a wrong command", () -> Check.perform(x, "b9:a@2.3"), UnsupportedOperationException.class);
        Check.due("27: a wrong text", () -> Check.perform(x, "b"), -101);
        Check.due("27: a refusal", () -> x.refusal(1, 1, 3, 3), 4);
        reported(x, levels);
        Check.fails("27: a command", () -> Check.perform(x, "b0:a@9.0;b1:a@9.0"),
                UnsupportedOperationException.class);
        reported(x, new int[][] {{99, 1}, {1, 36}, {5, 0}});
        Check.fails("27: refused", () -> x.book(1, 4, 3, 3), UnsupportedOperationException.class);
        reported(x, new int[][] {{1, 15}, {4, 1}});
        for (int odd : OUTSIDE) {
            Check.fails("27: level " + odd, () -> x.report(odd, true), NoSuchElementException.class);
        }
    }

    private static void reported(VisitBooking x, int[][] levels) {
        for (int k = 0; k < levels.length; k++) {
            int level = k;
            Check.due("27: level " + k, () -> x.report(level, false), levels[level][0]);
            Check.due("27: detail of level " + k, () -> x.report(level, true), levels[level][1]);
        }
        Check.fails("27: no more levels", () -> x.report(levels.length, false), NoSuchElementException.class);
        Check.fails("27: no more levels", () -> x.report(levels.length, true), NoSuchElementException.class);
    }
}
