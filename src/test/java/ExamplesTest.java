import java.util.NoSuchElementException;

/** The examples of the document. */
public final class ExamplesTest {
    public static void main(String[] args) {
        bookings();
        confined();
        banAndWish();
        text();
        notFound();
        Check.end();
    }

    private static void bookings() {
        VisitBooking x = new VisitBooking();
        Check.due("addInmate", () -> x.addInmate(0, 0), 0);
        Check.due("addVisitor", () -> x.addVisitor(0), 0);
        Check.due("addRoom", () -> x.addRoom(0, 2, false), 0);
        Check.due("book", () -> x.book(0, 1, 0, 0), 0);
        Check.fails("book", () -> x.book(0, 1, 1, 0), UnsupportedOperationException.class);
        Check.due("report(1, false)", () -> x.report(1, false), 3);
        Check.due("report(1, true)", () -> x.report(1, true), 1);
        Check.due("slot", () -> x.slot(0, 0, true), 3);
        Check.due("use", () -> x.use(0), 1.0f);
    }

    private static void confined() {
        VisitBooking x = new VisitBooking();
        Check.due("addInmate", () -> x.addInmate(0, 2), 0);
        Check.due("addVisitor", () -> x.addVisitor(1), 0);
        Check.due("addRoom", () -> x.addRoom(0, 1, false), 0);
        Check.due("addRoom", () -> x.addRoom(2, 1, true), 1);
        Check.due("book", () -> x.book(0, 1, 3, 1), 0);
        Check.due("confine", () -> x.confine(0, true), 1);
        Check.due("visit", () -> x.visit(0, 4), 1);
        Check.due("notice", () -> x.notice(0, true), 0);
        Check.due("meanDistance", () -> x.meanDistance(), 2.0);
    }

    private static void banAndWish() {
        VisitBooking x = new VisitBooking();
        Check.due("addInmate", () -> x.addInmate(0, 2), 0);
        Check.due("addVisitor", () -> x.addVisitor(1), 0);
        Check.due("addRoom", () -> x.addRoom(0, 1, true), 0);
        Check.due("ban", () -> x.ban(0, 0, 0, 3, 5), 0);
        Check.due("wish", () -> x.wish(0, 1, 4, 6), 1);
        Check.due("lift", () -> x.lift(0), 1);
        Check.due("visit", () -> x.visit(0, 2), 4);
        Check.due("notice", () -> x.notice(0, true), 3);
    }

    private static void text() {
        VisitBooking x = new VisitBooking();
        Check.due("addInmate", () -> x.addInmate(0, 1), 0);
        Check.due("addVisitor", () -> x.addVisitor(0), 0);
        Check.due("addRoom", () -> x.addRoom(3, 3, true), 0);
        Check.due("perform", () -> Check.perform(x, "b0:a@2.3"), 1);
        Check.due("account", () -> x.account(12), 3);
    }

    private static void notFound() {
        VisitBooking x = new VisitBooking();
        Check.due("perform", () -> Check.perform(x, "b0:aa"), -104);
        Check.fails("firstFree", () -> x.firstFree(0, 1), IndexOutOfBoundsException.class);
        Check.fails("report", () -> x.report(0, true), NoSuchElementException.class);
    }
}
