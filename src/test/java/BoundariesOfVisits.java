import java.util.NoSuchElementException;

/** Boundary cases of the promises 14 and 17 to 20: visits that are cancelled, looked at or held. */
final class BoundariesOfVisits {
    private static final Class<IllegalArgumentException> RANGE = IllegalArgumentException.class;
    private static final Class<IllegalStateException> STATE = IllegalStateException.class;
    private static final Class<IndexOutOfBoundsException> INDEX = IndexOutOfBoundsException.class;
    private static final Class<NoSuchElementException> ELEMENT = NoSuchElementException.class;
    private static final Whole.Maker LAST_DAY = BoundariesOfVisits::lastDay;

    private BoundariesOfVisits() {
    }

    static void all() {
        cancelWrong();
        cancelled();
        cancelForWishes();
        cancelForLaterWishes();
        visitWrong();
        visitNumbers();
        visitStatus();
        heldVisit();
        nextPlaces();
        nextInOrder();
        slotWrong();
        slotRooms();
        slotPlaces();
        passInRange();
        passTooFar();
        passHolds();
        passAndWishes();
    }

    private static VisitBooking lastDay() {
        VisitBooking x = Desks.withRoom();
        x.book(0, 1, 55, 0);
        x.pass(20);
        x.pass(20);
        x.pass(15);
        return x;
    }

    // ---- promise 14

    private static void cancelWrong() {
        Sentence.of(14, "Throws `IndexOutOfBoundsException` if there is no such visit");
        Sentence.refused("visit", Desks.BUSY, Sentence.outside(0, Desks.VISITS - 1), (x, v) -> x.cancel(v), INDEX);
        Sentence.refused("no visits", Desks.EMPTY, x -> x.cancel(0), INDEX);

        Sentence.of(14, "Throws `IllegalStateException` if it is not booked");
        Sentence.refused("a held one", Desks.BUSY, x -> x.cancel(Desks.HELD), STATE);
        Sentence.refused("a cancelled one", Desks.BUSY, x -> x.cancel(Desks.CANCELLED), STATE);
        VisitBooking x = lastDay();
        Sentence.due("one on the present day", () -> x.cancel(0), 0);
        Sentence.fails("again", () -> x.cancel(0), STATE);
    }

    private static void cancelled() {
        Sentence.of(14, "Cancels a visit.");
        VisitBooking x = Desks.small();
        x.addRoom(0, 3, false);
        x.book(0, 3, 5, 0);
        x.book(0, 1, 5, 1);
        Sentence.due("the first one", () -> x.cancel(0), 0);
        Sentence.due("it is cancelled", () -> x.visit(0, 5), 2);
        Sentence.due("its room is free", () -> x.slot(5, 0, false), 0);
        Sentence.due("its places are free", () -> x.slot(5, 0, true), 4);
        Sentence.due("there is no notice", () -> x.account(10), 0);
        Sentence.due("the other one stays", () -> x.visit(1, 5), 0);
        Sentence.due("the last one", () -> x.cancel(1), 0);
        Sentence.due("none is booked", () -> x.account(2), 0);
    }

    private static void cancelForWishes() {
        Sentence.of(14, "Returns the number of visits that are booked for wishes by that.");
        for (int wishes = 0; wishes <= 6; wishes++) {
            VisitBooking x = Desks.withRoom();
            x.book(0, 1, 5, 0);
            for (int k = 0; k < wishes; k++) {
                x.wish(0, 4, 6 + k, 6 + k);
            }
            int many = wishes;
            Sentence.due(wishes + " wishes", () -> x.cancel(0), many);
            Sentence.due("none is left", () -> x.account(9), 0);
            Sentence.due("notices", () -> x.account(10), many);
            for (int k = 0; k < wishes; k++) {
                int place = k;
                Sentence.due("the visit of notice " + k, () -> x.notice(place, false), place + 1);
                Sentence.due("its kind", () -> x.notice(place, true), 3);
                Sentence.due("its day", () -> x.visit(place + 1, 2), 6 + place);
            }
        }
        VisitBooking x = fullDay();
        Sentence.due("one slot is free for two wishes", () -> x.cancel(2), 1);
        Sentence.due("the first wish had it", () -> x.visit(4, 1), 1);
        Sentence.due("in the slot that was free", () -> x.visit(4, 3), 2);
        Sentence.due("the second one is the first one now", () -> x.wished(0, 1), 2);
    }

    /** Day 5 is full; two wishes of inmate 0 wait for it. */
    private static VisitBooking fullDay() {
        VisitBooking x = Desks.withRoom();
        Desks.bookLawyer(x, 4, 5);
        x.wish(0, 1, 5, 5);
        x.wish(0, 2, 5, 5);
        return x;
    }

    private static void cancelForLaterWishes() {
        Sentence.of(14, "Whenever a visit was cancelled by the call of cancel");
        VisitBooking x = fullDay();
        x.set(2, 0);
        Sentence.due("the quota is 0", () -> x.cancel(0), 0);
        Sentence.due("both wait", () -> x.account(9), 2);
        x.set(2, 3);
        Sentence.due("a free slot alone books nothing", () -> x.account(1), 4);
        Sentence.due("both are booked", () -> x.cancel(3), 2);
        Sentence.due("the first one in the first slot", () -> x.visit(4, 3), 0);
        Sentence.due("the second one in the next one", () -> x.visit(5, 3), 3);

        Sentence.of(14, "Each wish is looked at once, on all slots of the present day, too.");
        VisitBooking y = fullDay();
        y.pass(5);
        Sentence.due("on the present day", () -> y.cancel(0), 1);
        Sentence.due("its first slot", () -> y.visit(4, 2) * 4 + y.visit(4, 3), 20);
        Sentence.due("its last slot", () -> y.cancel(3) * 100 + y.visit(5, 3), 103);

        Sentence.of(14, "if a visit would not be refused there, it is booked, there is a notice, and the wish goes.");
        VisitBooking z = Desks.withRoom();
        Desks.bookLawyer(z, 60, 0);
        z.wish(0, 1, 20, 20);
        Sentence.due("60 visits were booked", () -> z.cancel(0), 0);
        Sentence.due("the wish waits", () -> z.account(9), 1);
        Sentence.due("there is no notice", () -> z.account(10), 0);
    }

    // ---- promise 17

    private static void visitWrong() {
        Sentence.of(17, "Throws `IndexOutOfBoundsException` if there is no such visit");
        Sentence.refused("visit", Desks.BUSY, Sentence.outside(0, Desks.VISITS - 1), (x, v) -> x.visit(v, 0), INDEX);
        Sentence.refused("no visits", Desks.EMPTY, x -> x.visit(0, 0), INDEX);

        Sentence.of(17, "Throws `IllegalArgumentException` if what is out of range");
        Sentence.refused("what", Desks.BUSY, Sentence.outside(0, 7), (x, what) -> x.visit(0, what), RANGE);

        Sentence.of(17, "If several exceptions apply, the one named first is thrown.");
        Sentence.refused("no visit, no number", Desks.BUSY, x -> x.visit(Desks.VISITS, 8), INDEX);
    }

    private static void visitNumbers() {
        Sentence.of(17, "- `what`: 0 the inmate; 1 the set of visitors; 2 the day; 3 the slot; 4 the room");
        int[][] numbers = {{0, 1, 0, 0, 0, 1, 1, 1}, {1, 2, 3, 1, 1, 0, 0, 1}, {0, 3, 4, 2, 0, 2, 0, 1},
            {0, 4, 4, 3, 0, 0, 1, 0}, {3, 1, 6, 1, 1, 0, 0, 1}, {3, 2, 8, 3, 1, 0, 0, 1}};
        for (int visit = 0; visit < Desks.VISITS; visit++) {
            for (int what = 0; what <= 7; what++) {
                int v = visit;
                int w = what;
                Sentence.reads("number " + what + " of " + visit, Desks.BUSY, x -> x.visit(v, w), numbers[v][w]);
            }
        }

        Sentence.of(17, "Returns a number of a visit.");
        VisitBooking x = lastDay();
        int[] last = {0, 1, 55, 0, 0, 0, 0, 1};
        for (int what = 0; what <= 7; what++) {
            int w = what;
            Sentence.due("number " + what, () -> x.visit(0, w), last[w]);
        }
    }

    private static void visitStatus() {
        Sentence.of(17, "It is booked (0), held (1) or cancelled (2).");
        VisitBooking x = Desks.small();
        x.addRoom(0, 3, false);
        x.addRoom(1, 3, false);
        x.book(0, 7, 0, 0);
        x.book(0, 6, 2, 0);
        x.book(0, 4, 2, 1);
        Sentence.due("booked", () -> x.visit(0, 5), 0);
        x.pass(1);
        Sentence.due("held", () -> x.visit(0, 5), 1);
        x.cancel(1);
        Sentence.due("cancelled", () -> x.visit(1, 5), 2);
        x.pass(9);
        Sentence.due("cancelled for ever", () -> x.visit(1, 5), 2);

        Sentence.of(17, "for a visit that was cancelled, 4 is the room that it had last, and 6 is 0.");
        VisitBooking y = Desks.small();
        y.addRoom(0, 3, false);
        y.addRoom(1, 3, false);
        y.book(0, 7, 5, 0);
        Sentence.due("places before that", () -> y.visit(0, 6), 3);
        y.move(0, 1);
        y.cancel(0);
        Sentence.due("the room after a move", () -> y.visit(0, 4), 1);
        Sentence.due("no places", () -> y.visit(0, 6), 0);
        y.book(0, 3, 6, 0);
        y.set(3, 0);
        y.move(0, 0);
        Sentence.due("cancelled by a move", () -> y.visit(1, 5), 2);
        Sentence.due("the room before it", () -> y.visit(1, 4), 1);
        Sentence.due("no places", () -> y.visit(1, 6), 0);

        Sentence.of(17, "7 whether it would count for the quota if it was booked (1) or not (0)");
        Sentence.due("a cancelled one with family", () -> y.visit(1, 7), 1);
        Sentence.due("a cancelled one with all kinds", () -> y.visit(0, 7), 1);
        Sentence.due("a held lawyer", () -> x.visit(2, 5) * 10 + x.visit(2, 7), 10);
    }

    private static void heldVisit() {
        Sentence.of(17, "A held visit takes as many places for searches as it took, but places are left by booked ones alone.");
        VisitBooking x = Desks.small();
        x.addRoom(0, 3, false);
        x.addRoom(3, 3, true);
        x.book(0, 7, 0, 0);
        x.confine(0, true);
        x.confine(0, false);
        x.book(0, 6, 0, 1);
        x.pass(1);
        Sentence.due("one in a glass room", () -> x.visit(0, 6), 0);
        Sentence.due("one in another room", () -> x.visit(1, 6), 2);
        Sentence.due("all places are left", () -> x.slot(0, 1, true), 4);
        x.setOpen(0, false);
        x.move(0, 3);
        x.set(3, 0);
        Sentence.due("as many as it took", () -> x.visit(1, 6), 2);
        Sentence.due("in the room where it was", () -> x.visit(1, 4), 0);

        Sentence.of(17, "Returns the number");
        Sentence.due("held", () -> x.visit(1, 5), 1);
    }

    // ---- promise 18

    private static void nextPlaces() {
        Sentence.of(18, "Throws `NoSuchElementException` if there is no such place");
        Sentence.refused("place", Desks.BUSY, Sentence.outside(0, 3), (x, place) -> x.next(place), ELEMENT);
        Sentence.refused("no visits", Desks.EMPTY, x -> x.next(0), ELEMENT);

        Sentence.of(18, "- `place`: the place, from 0");
        Sentence.reads("the first one", Desks.BUSY, x -> x.next(0), 1);
        Sentence.reads("the second one", Desks.BUSY, x -> x.next(1), 3);
        Sentence.reads("the last one", Desks.BUSY, x -> x.next(3), 5);

        Sentence.of(18, "Returns the visit.");
        VisitBooking x = Desks.withRoom();
        for (int k = 0; k < 60; k++) {
            x.book(0, 4, (59 - k) / 4, (59 - k) % 4);
        }
        Sentence.due("the first one of 60", () -> x.next(0), 59);
        Sentence.due("the last one of 60", () -> x.next(59), 0);
        Sentence.fails("no place 60", () -> x.next(60), ELEMENT);
        x.pass(15);
        Sentence.fails("all are held", () -> x.next(0), ELEMENT);
    }

    private static void nextInOrder() {
        Sentence.of(18, "Returns a booked visit by its place in the order of days, then slots, then rooms.");
        VisitBooking x = Desks.wide();
        x.move(1, 3);
        x.move(2, 1);
        x.book(1, 1, 5, 1);
        x.book(0, 2, 5, 1);
        x.book(2, 4, 5, 1);
        x.book(1, 1, 5, 0);
        x.book(1, 1, 4, 3);
        x.book(0, 2, 6, 0);
        int[] order = {4, 3, 1, 2, 0, 5};
        for (int k = 0; k < 6; k++) {
            int place = k;
            Sentence.due("place " + k, () -> x.next(place), order[place]);
        }
        x.cancel(3);
        Sentence.due("a cancelled one is left out", () -> x.next(1), 1);
        x.pass(5);
        Sentence.due("a held one is left out", () -> x.next(0), 1);
        Sentence.due("the last one", () -> x.next(3), 5);
    }

    // ---- promise 19

    private static void slotWrong() {
        Sentence.of(19, "Throws `IllegalArgumentException` if the day or the slot is out of range");
        int[] days = Sentence.outside(0, 55);
        int[] slots = Sentence.outside(0, 3);
        Sentence.refused("day", Desks.BUSY, days, (x, day) -> x.slot(day, 0, true), RANGE);
        Sentence.refused("day", Desks.BUSY, days, (x, day) -> x.slot(day, 0, false), RANGE);
        Sentence.refused("slot", Desks.BUSY, slots, (x, slot) -> x.slot(0, slot, true), RANGE);
        Sentence.refused("slot", Desks.BUSY, slots, (x, slot) -> x.slot(0, slot, false), RANGE);

        Sentence.of(19, "Returns the set or the number.");
        Sentence.reads("the first slot", Desks.BUSY, x -> x.slot(0, 0, false), 0);
        Sentence.reads("the last slot", Desks.BUSY, x -> x.slot(55, 3, true), 6);
    }

    private static void slotRooms() {
        Sentence.of(19, "Returns the booked visits in a slot, as a set of rooms, or the places for searches that are left.");
        VisitBooking x = Desks.wide();
        x.addRoom(3, 3, true);
        x.addRoom(3, 3, true);
        x.move(1, 3);
        x.book(0, 1, 5, 1);
        x.book(1, 2, 5, 1);
        Sentence.due("rooms 0 and 3", () -> x.slot(5, 1, false), 1 | 1 << 3);
        x.setOpen(3, false);
        x.setOpen(4, false);
        Sentence.due("rooms 0 and 5", () -> x.slot(5, 1, false), 1 | 1 << 5);
        Sentence.due("the slot before", () -> x.slot(5, 0, false), 0);
        Sentence.due("the slot after", () -> x.slot(5, 2, false), 0);
        Sentence.due("the day before", () -> x.slot(4, 1, false), 0);
        Sentence.due("the day after", () -> x.slot(6, 1, false), 0);
        x.cancel(0);
        Sentence.due("a cancelled one", () -> x.slot(5, 1, false), 1 << 5);
        x.pass(5);
        Sentence.due("on the present day", () -> x.slot(5, 1, false), 1 << 5);
        x.pass(1);
        Sentence.due("a held one", () -> x.slot(5, 1, false), 0);
    }

    private static void slotPlaces() {
        Sentence.of(19, "true for the places that are left, less than 0 if there are fewer places than are taken");
        VisitBooking x = Desks.small();
        x.addInmate(0, 2);
        x.addVisitor(0);
        x.addRoom(0, 3, false);
        x.addRoom(0, 3, false);
        x.book(0, 7, 5, 1);
        x.book(1, 8, 5, 1);
        int[] left = {-4, -3, -2, -1, 0, 1, 2, 3, 4, 5, 6, 7, 8};
        for (int k = 0; k <= 12; k++) {
            int places = k;
            x.set(3, places);
            Sentence.due(k + " places", () -> x.slot(5, 1, true), left[places]);
            Sentence.due("another slot", () -> x.slot(5, 0, true), places);
        }
        x.pass(6);
        Sentence.due("held ones", () -> x.slot(5, 1, true), 12);
    }

    // ---- promise 20

    private static void passInRange() {
        Sentence.of(20, "Throws `IllegalArgumentException` if the number is out of range");
        Sentence.refused("days", Desks.BUSY, Sentence.outside(1, 20), (x, days) -> x.pass(days), RANGE);

        Sentence.of(20, "- `days`: the number of days, 1 to 20");
        for (int days : new int[] {1, 2, 19, 20}) {
            VisitBooking x = new VisitBooking();
            Sentence.due(days + " days", () -> x.pass(days), 0);
            Sentence.due("the present day", () -> x.account(0), days);
        }
    }

    private static void passTooFar() {
        Sentence.of(20, "Throws `IllegalStateException` if the present day would be greater than 55");
        Sentence.refused("from the last day", LAST_DAY, x -> x.pass(1), STATE);
        Sentence.refused("from the last day", LAST_DAY, x -> x.pass(20), STATE);
        Whole.Maker fourty = () -> {
            VisitBooking x = Desks.BUSY.make();
            x.pass(20);
            x.pass(19);
            return x;
        };
        Sentence.refused("to day 56", fourty, x -> x.pass(16), STATE);
        Sentence.refused("to day 60", fourty, x -> x.pass(20), STATE);
        VisitBooking y = fourty.make();
        y.pass(15);
        Sentence.due("to day 55", () -> y.account(0), 55);

        Sentence.of(20, "If several exceptions apply, the one named first is thrown.");
        Sentence.refused("days", LAST_DAY, Sentence.outside(1, 20), (x, days) -> x.pass(days), RANGE);

        Sentence.of(20, "Lets days pass.");
        VisitBooking x = new VisitBooking();
        for (int day = 1; day <= 55; day++) {
            int next = day;
            x.pass(1);
            Sentence.due("the present day", () -> x.account(0), next);
        }
        Sentence.fails("no more", () -> x.pass(1), STATE);
    }

    private static void passHolds() {
        Sentence.of(20, "Visits on days before the present one then are held, if they are booked.");
        VisitBooking x = Desks.withRoom();
        x.book(0, 4, 4, 3);
        x.book(0, 4, 5, 0);
        x.book(0, 4, 4, 0);
        x.book(0, 4, 0, 0);
        x.cancel(2);
        Sentence.due("the day of the visit comes", () -> x.pass(4), 1);
        Sentence.due("the one on this day is booked", () -> x.visit(0, 5), 0);
        Sentence.due("the day is over", () -> x.pass(1), 1);
        Sentence.due("the one on this day is held", () -> x.visit(0, 5), 1);
        Sentence.due("the cancelled one stays so", () -> x.visit(2, 5), 2);
        Sentence.due("the one on the present day is booked", () -> x.visit(1, 5), 0);

        Sentence.of(20, "Returns the number of visits that are held by that.");
        Sentence.due("one more", () -> x.pass(1), 1);
        Sentence.due("none more", () -> x.pass(20), 0);
        Sentence.due("there are no notices", () -> x.account(10), 0);
        VisitBooking y = Desks.withRoom();
        Desks.bookLawyer(y, 60, 5);
        Sentence.due("all but four of 60", () -> y.pass(19), 56);
        Sentence.due("four on the present day", () -> y.account(2), 4);
    }

    private static void passAndWishes() {
        Sentence.of(20, "Wishes whose last day is before the present day go when days pass.");
        VisitBooking x = Desks.withRoom();
        int[][] days = {{0, 4}, {0, 5}, {6, 6}, {5, 5}, {0, 55}, {2, 3}};
        for (int[] wish : days) {
            x.wish(0, 1, wish[0], wish[1]);
        }
        x.pass(3);
        Sentence.due("on day 3 all wait", () -> x.account(9), 6);
        x.pass(2);
        Sentence.due("on day 5 four wait", () -> x.account(9), 4);
        int[] last = {5, 6, 5, 55};
        for (int k = 0; k < 4; k++) {
            int place = k;
            Sentence.due("wish " + k, () -> x.wished(place, 3), last[place]);
        }
        x.pass(1);
        Sentence.due("on day 6 two wait", () -> x.account(9), 2);
        Sentence.due("the first one", () -> x.wished(0, 2), 6);
        Sentence.due("nothing was booked", () -> x.account(1), 0);
        x.pass(20);
        x.pass(20);
        x.pass(9);
        Sentence.due("on day 55 one waits", () -> x.account(9), 1);
    }
}
