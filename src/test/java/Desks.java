/** Desks that the boundary tests begin with. */
final class Desks {
    /** The numbers of a busy desk. */
    static final int INMATES = 5;
    static final int VISITORS = 4;
    static final int ROOMS = 3;
    static final int VISITS = 6;
    static final int BANS = 2;
    static final int WISHES = 2;
    static final int NOTICES = 1;
    static final int TODAY = 1;
    static final int HELD = 0;
    static final int BOOKED = 1;
    static final int CANCELLED = 2;

    static final Whole.Maker EMPTY = VisitBooking::new;
    /** A busy desk with an empty input buffer. */
    static final Whole.Maker QUIET = Desks::quiet;
    /** A busy desk with the beginning of a command in its input buffer. */
    static final Whole.Maker BUSY = Desks::busy;

    private Desks() {
    }

    private static VisitBooking busy() {
        VisitBooking x = quiet();
        Check.feed(x, "m0");
        return x;
    }

    /**
     * Day 1. Visits: 0 held, 1 of inmate 1 with visitor 1 on day 3 in slot 1, 2 cancelled, 3 of inmate 0 with visitor 2
     * on day 4 in slot 3, 4 of inmate 3 with visitor 0 on day 6 in slot 1, 5 of inmate 3 with visitor 1 on day 8 in
     * slot 3. More changes than are kept, something saved, and a report.
     */
    private static VisitBooking quiet() {
        VisitBooking x = new VisitBooking();
        x.addInmate(0, 2);
        x.addInmate(1, 1);
        x.addInmate(3, 0);
        x.addInmate(2, 2);
        x.addInmate(0, 1);
        x.addVisitor(0);
        x.addVisitor(1);
        x.addVisitor(2);
        x.addVisitor(0);
        x.addRoom(0, 2, false);
        x.addRoom(2, 3, true);
        x.addRoom(3, 1, false);
        x.book(0, 1, 0, 0);
        x.book(1, 2, 3, 1);
        x.book(0, 3, 4, 2);
        x.book(0, 4, 4, 3);
        x.book(3, 1, 6, 1);
        x.book(3, 2, 8, 3);
        x.cancel(2);
        x.pass(1);
        x.ban(0, 0, 3, 10, 12);
        x.ban(2, 0, 1, 20, 21);
        x.move(1, 2);
        x.wish(1, 4, 5, 6);
        x.wish(0, 9, 10, 12);
        x.confine(2, true);
        x.set(1, 5);
        x.save();
        x.setLevel(2, 1);
        x.set(3, 6);
        Check.outcome(() -> x.book(0, 1, 0, 0));
        return x;
    }

    /** An inmate of level 2 in wing 0, a family visitor, a friend and a lawyer, and no rooms. */
    static VisitBooking small() {
        VisitBooking x = new VisitBooking();
        x.addInmate(0, 2);
        x.addVisitor(0);
        x.addVisitor(1);
        x.addVisitor(2);
        return x;
    }

    /** The same with one glass room of 3 seats in wing 0. */
    static VisitBooking withRoom() {
        VisitBooking x = small();
        x.addRoom(0, 3, true);
        return x;
    }

    /** Three inmates of level 2 in wing 0, the visitors of small and one more lawyer, and one glass room each wing. */
    static VisitBooking wide() {
        VisitBooking x = small();
        x.addVisitor(2);
        x.addInmate(0, 2);
        x.addInmate(0, 2);
        for (int wing = 0; wing < 4; wing++) {
            x.addRoom(wing, 3, true);
        }
        return x;
    }

    /** Some visits of inmate 0 with the lawyer alone, one in each slot from a day on. */
    static void bookLawyer(VisitBooking x, int visits, int day) {
        for (int k = 0; k < visits; k++) {
            x.book(0, 4, day + k / 4, k % 4);
        }
    }
}
