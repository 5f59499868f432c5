import java.util.NoSuchElementException;

/** Promises 13 to 20: visits. */
public final class VisitsTest {
    private static final int[] OUTSIDE = {-1, Integer.MIN_VALUE, Integer.MAX_VALUE};

    public static void main(String[] args) {
        promise13();
        promise13Rooms();
        promise13Reasons();
        promise13Pairs();
        promise13Quotas();
        promise13SixtyVisits();
        promise14();
        promise15();
        promise16();
        promise17();
        promise18();
        promise19();
        promise20();
        Check.end();
    }

    /** Two inmates of level 2 in wing 0, visitors 0 family, 1 friend, 2 and 3 lawyers. */
    private static VisitBooking desk() {
        VisitBooking x = new VisitBooking();
        x.addInmate(0, 2);
        x.addInmate(0, 2);
        x.addVisitor(0);
        x.addVisitor(1);
        x.addVisitor(2);
        x.addVisitor(2);
        return x;
    }

    private static void refused(VisitBooking x, int[] booking, int reason, int detail) {
        String what = "13: reason " + reason;
        Check.fails(what, () -> x.book(booking[0], booking[1], booking[2], booking[3]),
                UnsupportedOperationException.class);
        Check.due(what + ", inmate", () -> x.report(0, false), booking[0]);
        Check.due(what + ", time", () -> x.report(0, true), booking[2] * 4 + booking[3]);
        Check.due(what + ", the reason", () -> x.report(1, false), reason);
        Check.due(what + ", the detail", () -> x.report(1, true), detail);
        Check.fails(what + ", two levels", () -> x.report(2, false), NoSuchElementException.class);
        Check.due(what + ", as refusal tells", () -> x.refusal(booking[0], booking[1], booking[2], booking[3]), reason);
    }

    private static int[] at(int inmate, int visitors, int day, int slot) {
        return new int[] {inmate, visitors, day, slot};
    }

    private static void wrongBookings(VisitBooking x) {
        int[] sets = {0, 15, 16, 17, 1 << 31, -1, Integer.MAX_VALUE, 1 << 12};
        for (int set : sets) {
            Check.fails("13: set " + set, () -> x.book(0, set, 0, 0), IllegalArgumentException.class);
            Check.fails("15: set " + set, () -> x.refusal(0, set, 0, 0), IllegalArgumentException.class);
            Check.fails("16: set " + set, () -> x.firstFree(0, set), IllegalArgumentException.class);
        }
        Check.fails("13: no such inmate", () -> x.book(2, 0, 56, 4), IndexOutOfBoundsException.class);
        Check.fails("15: no such inmate", () -> x.refusal(2, 0, 56, 4), IndexOutOfBoundsException.class);
        Check.fails("16: no such inmate", () -> x.firstFree(2, 0), IndexOutOfBoundsException.class);
        Check.fails("13: day 56", () -> x.book(0, 1, 56, 0), IllegalArgumentException.class);
        Check.fails("13: slot 4", () -> x.book(0, 1, 0, 4), IllegalArgumentException.class);
        Check.fails("15: day 56", () -> x.refusal(0, 1, 56, 0), IllegalArgumentException.class);
        Check.fails("15: slot 4", () -> x.refusal(0, 1, 0, 4), IllegalArgumentException.class);
        for (int odd : OUTSIDE) {
            Check.fails("13: inmate " + odd, () -> x.book(odd, 1, 0, 0), IndexOutOfBoundsException.class);
            Check.fails("13: day " + odd, () -> x.book(0, 1, odd, 0), IllegalArgumentException.class);
            Check.fails("13: slot " + odd, () -> x.book(0, 1, 0, odd), IllegalArgumentException.class);
            Check.fails("15: inmate " + odd, () -> x.refusal(odd, 1, 0, 0), IndexOutOfBoundsException.class);
            Check.fails("15: day " + odd, () -> x.refusal(0, 1, odd, 0), IllegalArgumentException.class);
            Check.fails("15: slot " + odd, () -> x.refusal(0, 1, 0, odd), IllegalArgumentException.class);
            Check.fails("16: inmate " + odd, () -> x.firstFree(odd, 1), IndexOutOfBoundsException.class);
        }
    }

    private static void promise13() {
        VisitBooking x = desk();
        x.addRoom(0, 3, false);
        wrongBookings(x);
        Check.fails("13: a wrong call leaves no report", () -> x.report(0, false), NoSuchElementException.class);
        Check.due("13: no visits", () -> x.account(1), 0);
        Check.due("13: book", () -> x.book(1, 13, 55, 3), 0);
        int[] numbers = {1, 13, 55, 3, 0, 0, 3, 1};
        for (int k = 0; k < 8; k++) {
            int what = k;
            Check.due("13: number " + k, () -> x.visit(0, what), numbers[what]);
        }
        Check.due("13: the next one", () -> x.book(1, 13, 0, 0), 1);
        Check.due("13: no notices", () -> x.account(10), 0);
    }

    private static void promise13Rooms() {
        VisitBooking x = desk();
        x.addRoom(1, 1, false);
        x.addRoom(0, 3, false);
        x.addRoom(0, 2, false);
        x.addRoom(0, 2, false);
        x.addRoom(3, 3, true);
        x.set(0, 9);
        Check.due("13: the closest of the fewest seats", () -> x.visit(x.book(0, 1, 0, 0), 4), 2);
        Check.due("13: that one is taken", () -> x.visit(x.book(1, 2, 0, 0), 4), 3);
        Check.due("13: more seats", () -> x.visit(x.book(0, 7, 1, 0), 4), 1);
        Check.due("13: one place is left", () -> x.slot(1, 0, true), 1);
        Check.due("13: the last place", () -> x.visit(x.book(1, 8, 1, 0), 4), 2);
        Check.due("13: no place is left", () -> x.slot(1, 0, true), 0);
        x.cancel(3);
        x.setOpen(2, false);
        x.set(3, 3);
        Check.due("13: glass, as no place is left", () -> x.visit(x.book(1, 8, 1, 0), 4), 4);
        x.confine(0, true);
        Check.due("13: one who is confined", () -> x.visit(x.book(0, 4, 2, 0), 4), 4);
    }

    private static void promise13Reasons() {
        VisitBooking x = desk();
        x.addRoom(0, 2, false);
        x.addRoom(0, 1, false);
        x.addRoom(0, 3, false);
        x.pass(2);
        refused(x, at(0, 1, 1, 3), 1, 2);
        x.ban(1, 0, 1, 3, 4);
        x.ban(0, 0, 0, 3, 5);
        x.ban(0, 0, 1, 3, 5);
        refused(x, at(0, 1, 3, 0), 2, 1);
        refused(x, at(0, 3, 3, 0), 2, 0);
        refused(x, at(0, 3, 5, 0), 2, 1);
        refused(x, at(0, 2, 5, 0), 2, 2);
        Check.due("13: not of the other inmate", () -> x.refusal(1, 3, 3, 0), 0);
        Check.due("13: the day before", () -> x.refusal(0, 3, 2, 0), 0);
        Check.due("13: the day after", () -> x.refusal(0, 3, 6, 0), 0);
        Check.due("13: another visitor", () -> x.refusal(0, 4, 4, 0), 0);
        x.book(0, 4, 8, 1);
        refused(x, at(0, 8, 8, 1), 4, 0);
        refused(x, at(1, 6, 8, 1), 5, 2);
        x.book(1, 2, 8, 1);
        Check.due("13: places are left", () -> x.slot(8, 1, true), 2);
        x.addInmate(0, 2);
        refused(x, at(2, 7, 8, 1), 5, 1);
        x.setOpen(2, false);
        refused(x, at(2, 9, 8, 1), 6, 0);
        x.setOpen(2, true);
        x.confine(2, true);
        refused(x, at(2, 9, 8, 1), 6, 1);
        x.confine(2, false);
        x.set(3, 3);
        refused(x, at(2, 9, 8, 1), 7, 1);
        x.set(3, 0);
        refused(x, at(2, 9, 8, 1), 7, -2);
        x.set(3, 4);
        Check.due("13: booked at last", () -> x.book(2, 9, 8, 1), 2);
        Check.due("13: the report stays", () -> x.report(1, true), -2);
    }

    private static void promise13Pairs() {
        VisitBooking x = desk();
        x.addRoom(0, 1, true);
        x.addRoom(1, 1, true);
        x.addRoom(2, 1, true);
        x.ban(2, 1, 0, 5, 6);
        x.book(0, 1, 5, 0);
        Check.due("13: at a distance of 2", () -> x.visit(x.book(1, 2, 5, 0), 4), 2);
        Check.due("13: in another slot", () -> x.visit(x.book(1, 2, 5, 1), 4), 0);
        Check.due("13: for both alike", () -> x.visit(x.book(0, 4, 5, 1), 4), 2);
        x.book(0, 1, 7, 0);
        Check.due("13: after the last day", () -> x.visit(x.book(1, 2, 7, 0), 4), 1);
        x.book(0, 1, 4, 0);
        Check.due("13: before the first day", () -> x.visit(x.book(1, 2, 4, 0), 4), 1);
        x.setOpen(2, false);
        x.book(0, 1, 6, 3);
        refused(x, at(1, 4, 6, 3), 6, 1);
        x.addInmate(0, 0);
        Check.due("13: others may", () -> x.visit(x.book(2, 2, 6, 3), 4), 1);
    }

    private static void promise13Quotas() {
        VisitBooking x = desk();
        x.addRoom(0, 3, true);
        x.setLevel(0, 1);
        x.book(0, 1, 7, 0);
        x.book(0, 4, 7, 1);
        x.book(0, 6, 13, 0);
        refused(x, at(0, 2, 10, 0), 3, 2);
        refused(x, at(0, 2, 7, 0), 3, 2);
        Check.due("13: lawyers alone do not count", () -> x.refusal(0, 12, 10, 0), 0);
        Check.due("13: the week before", () -> x.refusal(0, 1, 6, 0), 0);
        Check.due("13: the week after", () -> x.refusal(0, 1, 14, 0), 0);
        Check.due("13: the other inmate", () -> x.refusal(1, 1, 10, 0), 0);
        x.set(1, 1);
        refused(x, at(0, 1, 10, 0), 3, 1);
        x.set(1, 2);
        x.pass(8);
        refused(x, at(0, 1, 10, 0), 3, 2);
        x.cancel(2);
        Check.due("13: a cancelled one does not count", () -> x.refusal(0, 1, 10, 0), 0);
        x.ban(0, 0, 0, 10, 10);
        refused(x, at(0, 1, 7, 0), 1, 8);
        x.set(1, 0);
        refused(x, at(0, 1, 10, 0), 2, 0);
    }

    private static void promise13SixtyVisits() {
        VisitBooking x = new VisitBooking();
        x.addInmate(0, 2);
        x.addVisitor(2);
        x.addRoom(0, 1, true);
        for (int k = 0; k < 60; k++) {
            int number = k;
            Check.due("13: visit " + k, () -> x.book(0, 1, number / 4, number % 4), number);
        }
        refused(x, at(0, 1, 20, 0), 8, 60);
        refused(x, at(0, 1, 0, 0), 4, 0);
        Check.fails("16: 60 visits were booked", () -> x.firstFree(0, 1), NoSuchElementException.class);
        Check.due("13: all get another room", () -> x.setOpen(0, x.addRoom(0, 1, true) == 0), 60);
        Check.due("13: all are in it", () -> x.room(1, 4), 60);
        x.undo();
        x.undo();
        x.wish(0, 1, 0, 0);
        Check.due("14: none for the wish", () -> x.cancel(59), 0);
        Check.due("14: the wish stays", () -> x.account(9), 1);
        refused(x, at(0, 1, 14, 3), 8, 60);
        x.setOpen(0, false);
        refused(x, at(0, 1, 14, 3), 6, 0);
        Check.due("13: all have notices", () -> x.account(10), 20);
        Check.due("13: the latest ones", () -> x.notice(0, false), 39);
        Check.due("13: the latest one", () -> x.notice(19, false), 58);
    }

    private static void promise14() {
        VisitBooking x = desk();
        x.addRoom(0, 2, false);
        x.book(0, 3, 2, 1);
        x.book(0, 1, 0, 0);
        Check.due("14: cancel", () -> x.cancel(0), 0);
        Check.due("14: cancelled", () -> x.visit(0, 5), 2);
        Check.due("14: no places", () -> x.visit(0, 6), 0);
        Check.due("14: its places are free", () -> x.slot(2, 1, true), 4);
        Check.due("14: its room is free", () -> x.slot(2, 1, false), 0);
        Check.due("14: no notice", () -> x.account(10), 0);
        Check.fails("14: again", () -> x.cancel(0), IllegalStateException.class);
        x.pass(1);
        Check.fails("14: a held one", () -> x.cancel(1), IllegalStateException.class);
        Check.fails("14: no such visit", () -> x.cancel(2), IndexOutOfBoundsException.class);
        for (int odd : OUTSIDE) {
            Check.fails("14: visit " + odd, () -> x.cancel(odd), IndexOutOfBoundsException.class);
        }
        x.book(0, 1, 2, 1);
        x.wish(1, 2, 2, 2);
        x.wish(1, 8, 2, 3);
        x.wish(0, 1, 2, 2);
        Check.due("14: all wishes at once", () -> x.cancel(2), 3);
        Check.due("14: the first one", () -> x.visit(3, 3), 0);
        Check.due("14: the second one", () -> x.visit(4, 3), 1);
        Check.due("14: the third one", () -> x.visit(5, 3), 2);
        Check.due("14: no wishes", () -> x.account(9), 0);
        Check.due("14: notices", () -> x.account(10), 3);
        Check.due("14: of kind 3", () -> x.notice(2, true), 3);
    }

    private static void promise15() {
        VisitBooking x = desk();
        x.addRoom(0, 1, false);
        Check.due("15: it would be booked", () -> x.refusal(0, 1, 0, 0), 0);
        Check.due("15: nothing is booked", () -> x.account(1), 0);
        Check.due("15: too many for the room", () -> x.refusal(0, 3, 0, 0), 6);
        Check.fails("15: no report", () -> x.report(0, false), NoSuchElementException.class);
        Check.due("15: no change", () -> x.undo(), 6);
        Check.due("15: the room is gone", () -> x.refusal(0, 1, 0, 0), 6);
        x.addRoom(0, 1, false);
        x.set(3, 0);
        Check.due("15: no places", () -> x.refusal(0, 1, 0, 0), 7);
        x.pass(1);
        Check.due("15: the day is over", () -> x.refusal(0, 1, 0, 3), 1);
    }

    private static void promise16() {
        VisitBooking x = desk();
        Check.fails("16: no rooms", () -> x.firstFree(0, 1), NoSuchElementException.class);
        x.addRoom(0, 1, true);
        Check.due("16: the first slot", () -> x.firstFree(0, 1), 0);
        x.pass(2);
        Check.due("16: from the present day on", () -> x.firstFree(0, 1), 8);
        x.book(1, 2, 2, 0);
        x.book(1, 2, 2, 1);
        Check.due("16: the days first", () -> x.firstFree(0, 1), 10);
        x.ban(0, 0, 0, 0, 3);
        Check.due("16: after a ban", () -> x.firstFree(0, 1), 16);
        x.set(2, 0);
        Check.fails("16: no quota", () -> x.firstFree(0, 1), NoSuchElementException.class);
        Check.due("16: for a lawyer", () -> x.firstFree(0, 4), 10);
        x.set(2, 9);
        x.ban(0, 0, 0, 4, 54);
        Check.due("16: the last day", () -> x.firstFree(0, 1), 220);
        x.ban(0, 0, 0, 55, 55);
        Check.fails("16: never", () -> x.firstFree(0, 1), NoSuchElementException.class);
        Check.fails("16: too many seats", () -> x.firstFree(0, 6), NoSuchElementException.class);
        Check.due("16: nothing is booked", () -> x.account(1), 2);
        Check.fails("16: no report", () -> x.report(0, false), NoSuchElementException.class);
    }

    private static void promise17() {
        VisitBooking x = desk();
        x.addRoom(0, 3, false);
        x.addRoom(3, 3, true);
        x.book(1, 7, 2, 3);
        x.book(1, 12, 2, 2);
        x.book(0, 3, 2, 2);
        int[][] numbers = {{1, 7, 2, 3, 0, 0, 3, 1}, {1, 12, 2, 2, 0, 0, 2, 0}, {0, 3, 2, 2, 1, 0, 0, 1}};
        for (int v = 0; v < 3; v++) {
            for (int k = 0; k < 8; k++) {
                int visit = v;
                int what = k;
                Check.due("17: number " + k + " of " + v, () -> x.visit(visit, what), numbers[visit][what]);
            }
        }
        x.cancel(1);
        Check.due("17: the room that it had last", () -> x.visit(1, 4), 0);
        Check.due("17: cancelled", () -> x.visit(1, 5), 2);
        Check.due("17: no places", () -> x.visit(1, 6), 0);
        Check.due("17: would not count", () -> x.visit(1, 7), 0);
        x.pass(3);
        Check.due("17: held", () -> x.visit(0, 5), 1);
        Check.due("17: it takes what it took", () -> x.visit(0, 6), 3);
        Check.due("17: it counts", () -> x.visit(0, 7), 1);
        x.book(0, 1, 5, 0);
        x.cancel(3);
        Check.due("17: would count if it was booked", () -> x.visit(3, 7), 1);
        Check.fails("17: no such visit", () -> x.visit(4, 0), IndexOutOfBoundsException.class);
        Check.fails("17: no such visit, nor number", () -> x.visit(4, 8), IndexOutOfBoundsException.class);
        Check.fails("17: no such number", () -> x.visit(0, 8), IllegalArgumentException.class);
        for (int odd : OUTSIDE) {
            Check.fails("17: visit " + odd, () -> x.visit(odd, 0), IndexOutOfBoundsException.class);
            Check.fails("17: what " + odd, () -> x.visit(0, odd), IllegalArgumentException.class);
        }
    }

    private static void promise18() {
        VisitBooking x = desk();
        x.addInmate(3, 2);
        Check.fails("18: no visits", () -> x.next(0), NoSuchElementException.class);
        x.addRoom(3, 1, true);
        x.addRoom(0, 1, true);
        x.addRoom(1, 1, true);
        x.book(0, 1, 3, 3);
        x.book(0, 1, 3, 1);
        x.book(1, 2, 3, 1);
        x.book(2, 4, 3, 1);
        x.book(0, 1, 2, 2);
        x.book(0, 4, 9, 0);
        x.cancel(5);
        int[] order = {4, 3, 1, 2, 0};
        for (int k = 0; k < 5; k++) {
            int place = k;
            Check.due("18: place " + k, () -> x.next(place), order[place]);
        }
        Check.fails("18: place 5", () -> x.next(5), NoSuchElementException.class);
        x.pass(3);
        Check.due("18: held ones are not booked", () -> x.next(0), 3);
        Check.fails("18: place 4", () -> x.next(4), NoSuchElementException.class);
        for (int odd : OUTSIDE) {
            Check.fails("18: place " + odd, () -> x.next(odd), NoSuchElementException.class);
        }
    }

    private static void promise19() {
        VisitBooking x = desk();
        x.addRoom(1, 3, true);
        x.addRoom(0, 2, false);
        x.addRoom(0, 2, false);
        x.book(0, 3, 1, 2);
        x.book(1, 4, 1, 2);
        Check.due("19: rooms", () -> x.slot(1, 2, false), 6);
        Check.due("19: places left", () -> x.slot(1, 2, true), 1);
        Check.due("19: another slot", () -> x.slot(1, 1, false), 0);
        Check.due("19: another slot", () -> x.slot(1, 1, true), 4);
        Check.due("19: another day", () -> x.slot(2, 2, false), 0);
        x.set(3, 1);
        Check.due("19: less than 0", () -> x.slot(1, 2, true), -2);
        x.confine(0, true);
        Check.due("19: other rooms", () -> x.slot(1, 2, false), 5);
        Check.due("19: places left", () -> x.slot(1, 2, true), 0);
        x.pass(2);
        Check.due("19: held ones have no rooms", () -> x.slot(1, 2, false), 0);
        Check.due("19: places are left by booked ones", () -> x.slot(1, 2, true), 1);
        Check.due("19: the last slot", () -> x.slot(55, 3, true), 1);
        Check.fails("19: day 56", () -> x.slot(56, 0, true), IllegalArgumentException.class);
        Check.fails("19: slot 4", () -> x.slot(0, 4, false), IllegalArgumentException.class);
        for (int odd : OUTSIDE) {
            Check.fails("19: day " + odd, () -> x.slot(odd, 0, true), IllegalArgumentException.class);
            Check.fails("19: slot " + odd, () -> x.slot(0, odd, false), IllegalArgumentException.class);
        }
    }

    private static void promise20() {
        VisitBooking x = desk();
        x.addRoom(0, 3, false);
        x.book(0, 1, 0, 3);
        x.book(0, 1, 1, 0);
        x.book(0, 1, 2, 0);
        x.book(0, 4, 1, 1);
        x.cancel(3);
        x.wish(0, 1, 0, 0);
        x.wish(0, 1, 0, 2);
        x.wish(1, 1, 0, 1);
        Check.due("20: a day", () -> x.pass(1), 1);
        Check.due("20: the present day", () -> x.account(0), 1);
        Check.due("20: held", () -> x.visit(0, 5), 1);
        Check.due("20: booked", () -> x.visit(1, 5), 0);
        Check.due("20: a wish goes", () -> x.account(9), 2);
        Check.due("20: a wish stays", () -> x.wished(0, 3), 2);
        Check.due("20: nothing is booked for wishes", () -> x.account(1), 4);
        Check.due("20: days", () -> x.pass(20), 2);
        Check.due("20: cancelled ones stay so", () -> x.visit(3, 5), 2);
        Check.due("20: wishes are gone", () -> x.account(9), 0);
        Check.due("20: none are held twice", () -> x.pass(20), 0);
        Check.fails("20: day 56", () -> x.pass(15), IllegalStateException.class);
        Check.fails("20: range ahead of that", () -> x.pass(21), IllegalArgumentException.class);
        Check.fails("20: no days", () -> x.pass(0), IllegalArgumentException.class);
        Check.due("20: the last day", () -> x.pass(14), 0);
        Check.due("20: day 55", () -> x.account(0), 55);
        Check.fails("20: no more", () -> x.pass(1), IllegalStateException.class);
        Check.due("20: a visit on the last day", () -> x.book(0, 1, 55, 3), 4);
        for (int odd : OUTSIDE) {
            Check.fails("20: days " + odd, () -> x.pass(odd), IllegalArgumentException.class);
        }
    }
}
