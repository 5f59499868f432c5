import java.util.NoSuchElementException;

/** Boundary cases of the promises 13, 15 and 16: bookings, refusals and the first free slot. */
final class BoundariesOfBookings {
    private static final Class<IllegalArgumentException> RANGE = IllegalArgumentException.class;
    private static final Class<IndexOutOfBoundsException> INDEX = IndexOutOfBoundsException.class;
    private static final Class<NoSuchElementException> ELEMENT = NoSuchElementException.class;
    /** Sets of none, of four, of one who does not exist on a busy desk, and numbers that are no sets. */
    private static final int[] NO_SETS = {0, 15, 16, 17, 1 << 12, 1 << 30, 1 << 31, -1, Integer.MAX_VALUE, -2};
    private static final Whole.Maker SIXTY_VISITS = BoundariesOfBookings::sixtyVisits;

    private BoundariesOfBookings() {
    }

    static void all() {
        noSuchInmate();
        noSuchSet();
        daysAndSlots();
        setsOfVisitors();
        firstNamedException();
        firstVisit();
        whereVisitsWere();
        sixRooms();
        roomChosen();
        seats();
        takenAndClosed();
        glassRooms();
        reasonDay();
        reasonBan();
        reasonQuota();
        quotasByWeeks();
        lawyersAndQuotas();
        reasonInmateIsBusy();
        reasonVisitorIsBusy();
        reasonNoRoom();
        reasonPair();
        reasonNoPlaces();
        reasonSixty();
        orderOfReasons();
        reportStays();
        refusalChangesNothing();
        firstFreeSlots();
        firstFreeNowhere();
    }

    private static VisitBooking sixtyVisits() {
        VisitBooking x = Desks.withRoom();
        Desks.bookLawyer(x, 60, 0);
        return x;
    }

    // ---- wrong numbers

    private static void noSuchInmate() {
        int[] inmates = Sentence.outside(0, Desks.INMATES - 1);
        Sentence.of(13, "Throws `IndexOutOfBoundsException` if there is no such inmate");
        Sentence.refused("inmate", Desks.BUSY, inmates, (x, i) -> x.book(i, 1, 5, 0), INDEX);
        Sentence.refused("no inmates", Desks.EMPTY, x -> x.book(0, 1, 5, 0), INDEX);
        Sentence.due("the last inmate", () -> Desks.BUSY.make().book(Desks.INMATES - 1, 1, 5, 0) >= 0, true);

        Sentence.of(15, "Throws `IndexOutOfBoundsException` if there is no such inmate");
        Sentence.refused("inmate", Desks.BUSY, inmates, (x, i) -> x.refusal(i, 1, 5, 0), INDEX);
        Sentence.refused("no inmates", Desks.EMPTY, x -> x.refusal(0, 1, 5, 0), INDEX);

        Sentence.of(16, "Throws `IndexOutOfBoundsException` if there is no such inmate");
        Sentence.refused("inmate", Desks.BUSY, inmates, (x, i) -> x.firstFree(i, 1), INDEX);
        Sentence.refused("no inmates", Desks.EMPTY, x -> x.firstFree(0, 1), INDEX);
    }

    private static void noSuchSet() {
        Sentence.of(13, "Throws `IllegalArgumentException` if the set does not have 1 to 3 visitors, or one that does not");
        Sentence.refused("set", Desks.BUSY, NO_SETS, (x, set) -> x.book(0, set, 5, 0), RANGE);

        Sentence.of(15, "Throws `IllegalArgumentException` if the set does not have 1 to 3 visitors, or one that does not");
        Sentence.refused("set", Desks.BUSY, NO_SETS, (x, set) -> x.refusal(0, set, 5, 0), RANGE);

        Sentence.of(16, "Throws `IllegalArgumentException` if the set does not have 1 to 3 visitors, or one that does not");
        Sentence.refused("set", Desks.BUSY, NO_SETS, (x, set) -> x.firstFree(0, set), RANGE);
        VisitBooking x = new VisitBooking();
        x.addInmate(0, 2);
        x.addRoom(0, 3, true);
        Sentence.fails("no visitors", () -> x.firstFree(0, 1), RANGE);
        for (int k = 0; k < 12; k++) {
            int set = 1 << k;
            x.addVisitor(2);
            Sentence.due("visitor " + k, () -> x.firstFree(0, set), 0);
            Sentence.fails("the next one", () -> x.firstFree(0, set << 1), RANGE);
        }
        Sentence.due("the last three", () -> x.firstFree(0, 7 << 9), 0);
        Sentence.fails("the last four", () -> x.firstFree(0, 15 << 8), RANGE);
        Sentence.fails("all", () -> x.firstFree(0, 4095), RANGE);
    }

    private static void daysAndSlots() {
        Sentence.of(13, "or the day or the slot is out of range");
        Sentence.refused("day", Desks.BUSY, Sentence.outside(0, 55), (x, day) -> x.book(0, 1, day, 0), RANGE);
        Sentence.refused("slot", Desks.BUSY, Sentence.outside(0, 3), (x, slot) -> x.book(0, 1, 5, slot), RANGE);

        Sentence.of(15, "or the day or the slot is out of range");
        Sentence.refused("day", Desks.BUSY, Sentence.outside(0, 55), (x, day) -> x.refusal(0, 1, day, 0), RANGE);
        Sentence.refused("slot", Desks.BUSY, Sentence.outside(0, 3), (x, slot) -> x.refusal(0, 1, 5, slot), RANGE);

        Sentence.of(13, "The days are numbered from 0 to 55, the present day is 0 at first.");
        VisitBooking x = Desks.withRoom();
        Sentence.due("the first day", () -> x.visit(x.book(0, 1, 0, 0), 2), 0);
        Sentence.due("the last day", () -> x.visit(x.book(0, 1, 55, 3), 2), 55);

        Sentence.of(13, "Each day has 4 slots, numbered from 0.");
        for (int slot = 0; slot <= 3; slot++) {
            int any = slot;
            Sentence.due("slot " + slot, () -> x.visit(x.book(0, 4, 30, any), 3), any);
        }
    }

    private static void setsOfVisitors() {
        Sentence.of(13, "A visit has an inmate, a set of 1 to 3 visitors, a day, a slot and a room.");
        VisitBooking x = Desks.wide();
        int[] sets = {1, 8, 3, 9, 12, 7, 11, 13, 14};
        for (int k = 0; k < sets.length; k++) {
            int number = k;
            Sentence.due("set " + sets[k], () -> x.book(2, sets[number], number * 6, 1), number);
            int[] row = {2, sets[k], k * 6, 1, 0};
            for (int what = 0; what < row.length; what++) {
                int w = what;
                Sentence.due("number " + what + " of it", () -> x.visit(number, w), row[w]);
            }
        }

        Sentence.of(13, "Sets are bit masks, bit k for number k.");
        Sentence.due("visitor 0 alone is busy", () -> x.refusal(0, 1, 0, 1), 5);
        Sentence.due("visitor 1", () -> x.refusal(0, 2, 0, 1), 0);
        Sentence.due("visitor 3 alone is busy", () -> x.refusal(0, 8, 6, 1), 5);
        Sentence.due("visitor 2", () -> x.refusal(0, 4, 6, 1), 0);
    }

    private static void firstNamedException() {
        Sentence.of(13, "If several exceptions apply, the one named first is thrown.");
        Sentence.refused("no inmate, no set", Desks.BUSY, x -> x.book(Desks.INMATES, 0, 5, 0), INDEX);
        Sentence.refused("no inmate, no day", Desks.BUSY, x -> x.book(Desks.INMATES, 1, 56, 4), INDEX);
        Sentence.refused("no set, day is over", Desks.BUSY, x -> x.book(0, 0, 0, 0), RANGE);
        Sentence.refused("no slot, day is over", Desks.BUSY, x -> x.book(0, 1, 0, 4), RANGE);
        Sentence.refused("no set, 60 visits", SIXTY_VISITS, x -> x.book(0, 8, 50, 0), RANGE);

        Sentence.of(15, "If several exceptions apply, the one named first is thrown.");
        Sentence.refused("no inmate, no set", Desks.BUSY, x -> x.refusal(Desks.INMATES, 0, 56, 4), INDEX);

        Sentence.of(16, "If several exceptions apply, the one named first is thrown.");
        Sentence.refused("no inmate, no set", Desks.BUSY, x -> x.firstFree(Desks.INMATES, 0), INDEX);
        Sentence.refused("no set, no slot", SIXTY_VISITS, x -> x.firstFree(0, 8), RANGE);
    }

    // ---- visits that are booked

    private static void firstVisit() {
        Sentence.of(13, "Books a visit.");
        VisitBooking x = Desks.withRoom();
        Sentence.due("the first one", () -> x.book(0, 2, 9, 3), 0);
        Sentence.due("one was booked", () -> x.account(1), 1);
        Sentence.due("it is booked", () -> x.visit(0, 5), 0);
        Sentence.due("there is no notice", () -> x.account(10), 0);
        Sentence.fails("there is no report", () -> x.report(0, false), ELEMENT);

        Sentence.of(13, "Returns the number of the visit.");
        x.cancel(0);
        Sentence.due("numbers are not used again", () -> x.book(0, 2, 9, 3), 1);
        x.undo();
        Sentence.due("but after undo", () -> x.book(0, 1, 9, 2), 1);

        Sentence.of(13, "At most 60 visits can ever be booked, numbered from 0.");
        for (int k = 2; k < 60; k++) {
            int number = k;
            Sentence.due("visit " + k, () -> x.book(0, 4, number / 2, number % 2), number);
        }
        Sentence.due("no other one", () -> x.refusal(0, 4, 50, 0), 8);
    }

    private static void whereVisitsWere() {
        Sentence.of(13, "It is booked (0), held (1) or cancelled (2).");
        VisitBooking x = Desks.withRoom();
        x.save();
        x.book(0, 1, 5, 0);
        x.cancel(0);
        x.restore();
        Sentence.due("where a cancelled one was", () -> x.visit(x.book(0, 1, 5, 0), 5), 0);
        x.pass(6);
        x.restore();
        Sentence.due("where a held one was", () -> x.visit(x.book(0, 1, 5, 0), 5), 0);
        Check.outcome(() -> Check.perform(x, "b0:a@6.0;x1;x0;x0"));
        Sentence.due("where a text was taken back", () -> x.visit(x.book(0, 1, 6, 0), 5), 0);
        Sentence.due("both are booked", () -> x.account(2), 2);
    }

    private static void sixRooms() {
        Sentence.of(13, "A visit gets the first room that can be had in the order of rooms for the inmate.");
        VisitBooking x = Desks.small();
        for (int room = 0; room < 6; room++) {
            x.addRoom(room / 2, 1 + room / 2, false);
        }
        x.setOpen(0, false);
        Sentence.due("one visitor", () -> x.visit(x.book(0, 1, 0, 0), 4), 1);
        Sentence.due("two visitors", () -> x.visit(x.book(0, 3, 0, 1), 4), 2);
        Sentence.due("three visitors", () -> x.visit(x.book(0, 7, 0, 2), 4), 4);
        x.setOpen(4, false);
        Sentence.due("the last room", () -> x.visit(2, 4), 5);
        x.confine(0, true);
        Sentence.due("none of six is a glass room", () -> x.refusal(0, 4, 0, 3), 6);
        VisitBooking y = new VisitBooking();
        y.addInmate(0, 0);
        y.addVisitor(2);
        for (int room = 0; room < 6; room++) {
            y.addRoom(0, 1, room == 5);
        }
        y.confine(0, true);
        Sentence.due("the last one of six is a glass room", () -> y.visit(y.book(0, 1, 0, 0), 4), 5);
        for (int visitor = 1; visitor < 12; visitor++) {
            y.addVisitor(2);
        }
        Sentence.due("as many visitors as there can be", () -> y.visit(y.book(0, 1 << 11, 0, 1), 4), 5);
    }

    private static void roomChosen() {
        Sentence.of(13, "A visit gets the first room that can be had in the order of rooms for the inmate.");
        VisitBooking x = Desks.small();
        x.move(0, 1);
        x.addRoom(3, 1, true);
        x.addRoom(2, 2, false);
        x.addRoom(0, 2, false);
        x.addRoom(0, 1, false);
        x.addRoom(1, 3, false);
        int[] order = {4, 3, 1, 2, 0};
        for (int k = 0; k < 5; k++) {
            int place = k;
            int room = order[k];
            int slot = k % 4;
            Sentence.due("the room at place " + k, () -> x.visit(x.book(0, 4, 9 + place, slot), 4), room);
            x.setOpen(room, false);
        }
        Sentence.due("none is open", () -> x.refusal(0, 4, 20, 0), 6);
    }

    private static void seats() {
        Sentence.of(13, "if it is open and has at least as many seats as they are");
        int[] sets = {1, 3, 7};
        for (int seats = 1; seats <= 3; seats++) {
            for (int visitors = 1; visitors <= 3; visitors++) {
                VisitBooking x = Desks.small();
                x.addRoom(0, seats, false);
                int set = sets[visitors - 1];
                Sentence.due(visitors + " visitors, " + seats + " seats", () -> x.refusal(0, set, 0, 0),
                        visitors <= seats ? 0 : 6);
            }
        }
        VisitBooking x = Desks.withRoom();
        x.setOpen(0, false);
        Sentence.due("a closed room", () -> x.refusal(0, 1, 0, 0), 6);
        Sentence.due("it is opened", () -> x.setOpen(0, true) + x.refusal(0, 1, 0, 0), 0);
    }

    private static void takenAndClosed() {
        Sentence.of(13, "no booked visit has it in this slot");
        VisitBooking x = Desks.wide();
        for (int room = 1; room < 4; room++) {
            x.setOpen(room, false);
        }
        x.book(0, 1, 5, 1);
        Sentence.due("the slot before", () -> x.refusal(1, 2, 5, 0), 0);
        Sentence.due("this slot", () -> x.refusal(1, 2, 5, 1), 6);
        Sentence.due("the slot after", () -> x.refusal(1, 2, 5, 2), 0);
        Sentence.due("the day before", () -> x.refusal(1, 2, 4, 1), 0);
        Sentence.due("the day after", () -> x.refusal(1, 2, 6, 1), 0);
        x.cancel(0);
        Sentence.due("a cancelled one does not have it", () -> x.refusal(1, 2, 5, 1), 0);
    }

    private static void glassRooms() {
        Sentence.of(13, "it is a glass room if the inmate is confined to glass");
        VisitBooking x = Desks.small();
        x.addRoom(0, 3, false);
        x.confine(0, true);
        Sentence.due("no glass room", () -> x.refusal(0, 1, 0, 0), 6);
        x.addRoom(3, 1, true);
        Sentence.due("a glass room far away", () -> x.visit(x.book(0, 1, 0, 0), 4), 1);
        Sentence.due("too few seats", () -> x.refusal(0, 3, 0, 1), 6);
        x.confine(0, false);
        Sentence.due("confined no more", () -> x.visit(x.book(0, 3, 0, 1), 4), 0);

        Sentence.of(13, "Each visitor who comes to a room that is no glass room is searched.");
        Sentence.due("in a glass room", () -> x.visit(0, 6), 0);
        Sentence.due("in another room", () -> x.visit(1, 6), 2);
        Sentence.due("places with the first one", () -> x.slot(0, 0, true), 4);

        Sentence.of(13, "a visit in such a room takes one place for each of its visitors");
        Sentence.due("places with the second one", () -> x.slot(0, 1, true), 2);
        int[] sets = {1, 2, 4, 3, 6, 7};
        for (int set : sets) {
            for (int glass = 0; glass <= 1; glass++) {
                VisitBooking y = Desks.small();
                y.addRoom(2, 3, glass == 1);
                y.book(0, set, 5, 0);
                int taken = glass == 1 ? 0 : Integer.bitCount(set);
                Sentence.due("set " + set + ", glass " + glass, () -> y.visit(0, 6), taken);
                Sentence.due("places that are left", () -> y.slot(5, 0, true), 4 - taken);
                Sentence.due("places that are taken", () -> y.account(11), taken);
                y.cancel(0);
                Sentence.due("none when it is cancelled", () -> y.account(11), 0);
            }
        }
    }

    // ---- reasons for refusals

    /** A booking that is refused and leaves its report, as refusal tells, too. */
    private static void refused(String what, Whole.Maker maker, int[] booking, int reason, int detail) {
        Sentence.leavesReport(what, maker, x -> x.book(booking[0], booking[1], booking[2], booking[3]), booking[0],
                booking[2] * 4 + booking[3], reason, detail);
        Sentence.due(what + ", refusal", () -> maker.make().refusal(booking[0], booking[1], booking[2], booking[3]),
                reason);
    }

    /** A booking that is not refused. */
    private static void booked(String what, Whole.Maker maker, int[] booking) {
        Sentence.reads(what, maker, x -> x.refusal(booking[0], booking[1], booking[2], booking[3]), 0);
        Sentence.due(what + ", is booked", () -> {
            VisitBooking x = maker.make();
            return x.visit(x.book(booking[0], booking[1], booking[2], booking[3]), 5);
        }, 0);
    }

    private static int[] at(int inmate, int visitors, int day, int slot) {
        return new int[] {inmate, visitors, day, slot};
    }

    private static void reasonDay() {
        Sentence.of(13, "1, the day is before the present one: the present day");
        Whole.Maker maker = () -> {
            VisitBooking x = Desks.withRoom();
            x.pass(7);
            return x;
        };
        refused("the day before", maker, at(0, 1, 6, 3), 1, 7);
        refused("the first day", maker, at(0, 1, 0, 0), 1, 7);
        booked("the present day", maker, at(0, 1, 7, 0));
        Whole.Maker last = () -> {
            VisitBooking x = maker.make();
            x.pass(20);
            x.pass(20);
            x.pass(8);
            return x;
        };
        refused("ahead of the last day", last, at(0, 1, 54, 3), 1, 55);
        booked("the last day", last, at(0, 1, 55, 0));
    }

    private static void reasonBan() {
        Sentence.of(13, "2, it would break a ban of a visitor or of a kind: the lowest such ban");
        Whole.Maker maker = () -> {
            VisitBooking x = Desks.wide();
            x.ban(2, 0, 1, 0, 55);
            x.ban(1, 0, 1, 5, 6);
            x.ban(0, 0, 0, 5, 6);
            x.ban(0, 0, 0, 6, 7);
            x.ban(0, 1, 3, 6, 6);
            x.ban(1, 1, 2, 6, 9);
            return x;
        };
        booked("the day before the first one", maker, at(0, 3, 4, 3));
        refused("the first day", maker, at(0, 1, 5, 0), 2, 2);
        refused("both bans of it", maker, at(0, 1, 6, 0), 2, 2);
        refused("the kind, and the visitor", maker, at(0, 3, 6, 3), 2, 1);
        refused("the last day", maker, at(0, 3, 7, 0), 2, 3);
        booked("the day after the last one", maker, at(0, 3, 8, 0));
        refused("one who has both kinds of bans", maker, at(1, 8, 6, 0), 2, 4);
        refused("another one of that kind", maker, at(1, 4, 6, 0), 2, 5);
        refused("among others", maker, at(1, 7, 9, 0), 2, 5);

        Sentence.of(13, "it is of that inmate, and that visitor, or one of that kind, is among its visitors.");
        booked("another inmate", maker, at(1, 3, 6, 0));
        booked("a third inmate", maker, at(2, 11, 6, 0));
        booked("other visitors", maker, at(0, 12, 6, 0));
        booked("the other visitor on the last day", maker, at(0, 2, 7, 0));
    }

    private static void reasonQuota() {
        Sentence.of(13, "3, it would count for the quota, and as many visits of the inmate as the quota of the level says");
        for (int quota = 0; quota <= 3; quota++) {
            int most = quota;
            Whole.Maker full = () -> withQuota(most, most);
            refused("quota " + quota + " is reached", full, at(0, 1, 3, 3), 3, quota);
            booked("one of another inmate", full, at(1, 1, 3, 3));
            booked("a lawyer", full, at(0, 12, 3, 3));
            if (quota > 0) {
                booked("quota " + quota + " is not reached", () -> withQuota(most, most - 1), at(0, 1, 3, 3));
            }
        }

        Sentence.of(13, "A booking is refused for the quota also if more visits count than the quota");
        refused("three count, one may", () -> withQuota(1, 3), at(0, 1, 3, 3), 3, 1);
        refused("three count, none may", () -> withQuota(0, 3), at(0, 1, 3, 3), 3, 0);

        Sentence.of(13, "The quota of an inmate is the number of such visits in a week");
        Whole.Maker nine = () -> withQuota(9, 9);
        refused("nine", nine, at(0, 1, 6, 3), 3, 9);
        booked("eight", () -> withQuota(9, 8), at(0, 1, 6, 3));
    }

    /** Some visits of inmate 0 in the first week, with a quota that is set after that. */
    private static VisitBooking withQuota(int quota, int visits) {
        VisitBooking x = Desks.wide();
        x.set(2, 9);
        for (int k = 0; k < visits; k++) {
            x.book(0, 1 << k % 2, k / 3, k % 3);
        }
        x.set(2, quota);
        x.setLevel(1, 1);
        return x;
    }

    private static void quotasByWeeks() {
        Sentence.of(13, "Week w consists of the days from 7 * w to 7 * w + 6.");
        for (int week = 0; week < 8; week++) {
            int first = 7 * week;
            Whole.Maker maker = () -> {
                VisitBooking x = Desks.withRoom();
                x.setLevel(0, 1);
                x.book(0, 1, first, 0);
                x.book(0, 1, first + 6, 3);
                return x;
            };
            refused("the first day of week " + week, maker, at(0, 1, first, 1), 3, 2);
            refused("the last day of week " + week, maker, at(0, 1, first + 6, 0), 3, 2);
            if (week > 0) {
                booked("the day before", maker, at(0, 1, first - 1, 3));
            }
            if (week < 7) {
                booked("the day after", maker, at(0, 1, first + 7, 0));
            }
        }
    }

    private static void lawyersAndQuotas() {
        Sentence.of(13, "A visit counts for the quota of its week if it is booked or held, and not all of its visitors");
        VisitBooking x = Desks.withRoom();
        x.setLevel(0, 1);
        x.book(0, 4, 0, 0);
        x.book(0, 4, 0, 1);
        x.book(0, 5, 0, 2);
        Sentence.due("one counts, two may", () -> x.refusal(0, 3, 1, 0), 0);
        x.book(0, 3, 1, 0);
        Sentence.due("two count", () -> x.refusal(0, 1, 2, 0), 3);
        Sentence.due("one with a lawyer", () -> x.refusal(0, 6, 2, 0), 3);
        Sentence.due("a lawyer alone", () -> x.refusal(0, 4, 2, 0), 0);
        x.pass(1);
        Sentence.due("a held one counts", () -> x.refusal(0, 1, 2, 0), 3);
        x.cancel(3);
        Sentence.due("a cancelled one does not", () -> x.refusal(0, 1, 2, 0), 0);
        x.set(1, 1);
        Sentence.due("one counts, one may", () -> x.refusal(0, 1, 2, 0), 3);
        x.setLevel(0, 2);
        Sentence.due("it is the quota of the level", () -> x.refusal(0, 1, 2, 0), 0);
    }

    private static void reasonInmateIsBusy() {
        Sentence.of(13, "4, the inmate has a booked visit in this slot: the visit");
        Whole.Maker maker = () -> {
            VisitBooking x = Desks.wide();
            x.book(1, 2, 5, 1);
            x.book(0, 4, 5, 1);
            x.book(0, 4, 5, 2);
            x.cancel(2);
            return x;
        };
        refused("inmate 0", maker, at(0, 8, 5, 1), 4, 1);
        refused("inmate 1", maker, at(1, 8, 5, 1), 4, 0);
        booked("the slot before", maker, at(0, 8, 5, 0));
        booked("where one was cancelled", maker, at(0, 8, 5, 2));
        booked("the day before", maker, at(0, 8, 4, 1));
        booked("the day after", maker, at(0, 8, 6, 1));
        booked("another inmate", maker, at(2, 8, 5, 1));
    }

    private static void reasonVisitorIsBusy() {
        Sentence.of(13, "5, one of the visitors has a booked visit in this slot: the lowest such visitor");
        Whole.Maker maker = () -> {
            VisitBooking x = Desks.wide();
            x.book(1, 2, 5, 1);
            x.book(0, 12, 5, 1);
            x.book(0, 1, 5, 2);
            x.cancel(2);
            return x;
        };
        refused("visitor 3", maker, at(2, 9, 5, 1), 5, 3);
        refused("visitor 2 of 2 and 3", maker, at(2, 12, 5, 1), 5, 2);
        refused("visitor 1 of 1, 2 and 3", maker, at(2, 14, 5, 1), 5, 1);
        refused("visitor 1 beside one who is free", maker, at(2, 3, 5, 1), 5, 1);
        booked("visitor 0", maker, at(2, 1, 5, 1));
        booked("the slot before", maker, at(2, 14, 5, 0));
        booked("where one was cancelled", maker, at(1, 3, 5, 2));
        Whole.Maker first = () -> {
            VisitBooking x = Desks.wide();
            x.book(0, 1, 5, 1);
            return x;
        };
        refused("visitor 0 of 0 and 1", first, at(2, 3, 5, 1), 5, 0);
        Whole.Maker last = () -> {
            VisitBooking x = Desks.wide();
            for (int k = 4; k < 12; k++) {
                x.addVisitor(2);
            }
            x.book(0, 1 << 11, 5, 1);
            return x;
        };
        refused("visitor 11", last, at(2, 1 << 11 | 1, 5, 1), 5, 11);
    }

    private static void reasonNoRoom() {
        Sentence.of(13, "6, no room is possible: the number of rooms that are open and that no booked visit has in this slot");
        Whole.Maker maker = () -> {
            VisitBooking x = Desks.small();
            x.addInmate(0, 2);
            x.addVisitor(0);
            x.addRoom(0, 1, false);
            x.addRoom(1, 2, false);
            x.addRoom(2, 2, false);
            x.addRoom(3, 3, false);
            x.setOpen(3, false);
            x.book(1, 8, 5, 1);
            return x;
        };
        refused("two of four are open and free", maker, at(0, 7, 5, 1), 6, 2);
        refused("three of four in another slot", maker, at(0, 7, 5, 2), 6, 3);
        booked("two visitors", maker, at(0, 6, 5, 1));
        Whole.Maker confined = () -> {
            VisitBooking x = maker.make();
            x.confine(0, true);
            return x;
        };
        refused("no glass room of three", confined, at(0, 1, 5, 0), 6, 3);
        refused("no rooms", Desks::small, at(0, 1, 0, 0), 6, 0);
        refused("none is open", () -> {
            VisitBooking x = Desks.withRoom();
            x.setOpen(0, false);
            return x;
        }, at(0, 1, 0, 0), 6, 0);
        refused("none is free", () -> {
            VisitBooking x = Desks.withRoom();
            x.addInmate(0, 0);
            x.book(0, 1, 0, 0);
            return x;
        }, at(1, 2, 0, 0), 6, 0);
    }

    private static void reasonPair() {
        Sentence.of(13, "and no booked visit in this slot is of an inmate with whom a ban of a pair holds on this day");
        for (int wing = 0; wing < 4; wing++) {
            for (int other = 0; other < 4; other++) {
                int one = wing;
                int two = other;
                Whole.Maker maker = () -> pair(one, two);
                boolean isFar = Math.abs(one - two) >= 2;
                String what = "wings " + one + " and " + two;
                for (int day : new int[] {5, 6}) {
                    if (isFar) {
                        booked(what + ", day " + day, maker, at(1, 2, day, 0));
                    } else {
                        refused(what + ", day " + day, maker, at(1, 2, day, 0), 6, 1);
                    }
                }
                booked(what + ", the day before", maker, at(1, 2, 4, 0));
                booked(what + ", the day after", maker, at(1, 2, 7, 0));
                booked(what + ", the next slot", maker, at(1, 2, 5, 1));
                booked(what + ", another inmate", maker, at(2, 2, 5, 0));
            }
        }

        Sentence.of(13, "A ban of a pair holds for both of its inmates alike");
        Whole.Maker turned = () -> {
            VisitBooking x = pair(1, 1);
            x.lift(0);
            x.ban(2, 1, 0, 5, 6);
            return x;
        };
        refused("named the other way", turned, at(1, 2, 5, 0), 6, 1);
        VisitBooking other = Desks.wide();
        other.book(1, 4, 5, 0);
        other.ban(0, 0, 1, 0, 55);
        other.ban(1, 0, 1, 0, 55);
        Sentence.due("a ban of a visitor or of a kind is none of a pair", () -> other.visit(other.book(0, 8, 5, 0), 4), 1);
        booked("a ban that was lifted", () -> {
            VisitBooking x = pair(1, 1);
            x.lift(0);
            return x;
        }, at(1, 2, 5, 0));
        Whole.Maker ten = () -> {
            VisitBooking x = pair(0, 3);
            x.addRoom(2, 1, true);
            for (int k = 0; k < 9; k++) {
                x.ban(2, k % 2, 2, 4, 7);
            }
            x.book(2, 2, 4, 0);
            return x;
        };
        refused("the last of ten bans", () -> {
            VisitBooking x = ten.make();
            x.lift(0);
            x.ban(2, 2, 1, 8, 8);
            x.book(2, 2, 8, 0);
            x.setOpen(0, false);
            return x;
        }, at(1, 1, 8, 0), 6, 1);
        booked("none of ten bans", ten, at(1, 1, 8, 0));
    }

    /** Two rooms in these wings; inmate 0 has visits in the first one from day 4 to day 7. */
    private static VisitBooking pair(int wing, int other) {
        VisitBooking x = new VisitBooking();
        x.addInmate(wing, 2);
        x.addInmate(other, 2);
        x.addInmate(other, 2);
        x.addVisitor(2);
        x.addVisitor(2);
        x.addRoom(wing, 1, true);
        for (int day = 4; day <= 7; day++) {
            x.book(0, 1, day, 0);
        }
        x.addRoom(other, 1, true);
        x.ban(2, 0, 1, 5, 6);
        return x;
    }

    private static void reasonNoPlaces() {
        Sentence.of(13, "or there are as many places for searches left in this slot as there are visitors.");
        int[] sets = {1, 3, 7};
        for (int places = 0; places <= 3; places++) {
            for (int visitors = 1; visitors <= 3; visitors++) {
                int left = places;
                Whole.Maker maker = () -> withPlaces(left, false);
                int[] booking = at(0, sets[visitors - 1], 5, 0);
                if (visitors <= places) {
                    booked(visitors + " visitors, " + places + " places", maker, booking);
                } else {
                    refused(visitors + " visitors, " + places + " places", maker, booking, 7, places);
                }
                booked("in a glass room", () -> withPlaces(left, true), booking);
            }
        }

        Sentence.of(13, "7, no room can be had: the places for searches that are left");
        Whole.Maker taken = () -> {
            VisitBooking x = withPlaces(4, false);
            x.addInmate(0, 2);
            x.addRoom(1, 3, false);
            x.addVisitor(0);
            x.book(1, 9, 5, 0);
            return x;
        };
        booked("two of four are left", taken, at(0, 6, 5, 0));
        Whole.Maker less = () -> {
            VisitBooking x = taken.make();
            x.set(3, 3);
            return x;
        };
        refused("one is left", less, at(0, 6, 5, 0), 7, 1);
        booked("one is enough", less, at(0, 4, 5, 0));
        booked("another slot", less, at(0, 6, 5, 1));
        refused("glass rooms which are too small, too close or closed", () -> {
            VisitBooking x = withPlaces(1, false);
            x.addInmate(0, 2);
            x.addVisitor(2);
            x.addRoom(3, 1, true);
            x.book(1, 8, 5, 0);
            x.addRoom(0, 1, true);
            x.addRoom(2, 3, true);
            x.addRoom(0, 3, true);
            x.setOpen(4, false);
            x.ban(2, 0, 1, 5, 5);
            x.move(1, 3);
            return x;
        }, at(0, 3, 5, 0), 7, 1);
        refused("none but for others", () -> {
            VisitBooking x = taken.make();
            x.set(3, 0);
            return x;
        }, at(0, 4, 5, 0), 7, -2);
    }

    private static VisitBooking withPlaces(int places, boolean isGlass) {
        VisitBooking x = Desks.small();
        x.addRoom(0, 3, isGlass);
        x.set(3, places);
        return x;
    }

    private static void reasonSixty() {
        Sentence.of(13, "8, 60 visits were booked: 60.");
        refused("60", SIXTY_VISITS, at(0, 4, 50, 0), 8, 60);
        refused("60 of which one is cancelled", () -> {
            VisitBooking x = sixtyVisits();
            x.cancel(59);
            return x;
        }, at(0, 4, 14, 3), 8, 60);
        refused("60 which are held", () -> {
            VisitBooking x = sixtyVisits();
            x.pass(15);
            return x;
        }, at(0, 4, 15, 0), 8, 60);
        booked("59", () -> {
            VisitBooking x = Desks.withRoom();
            Desks.bookLawyer(x, 59, 0);
            return x;
        }, at(0, 4, 50, 0));
    }

    private static void orderOfReasons() {
        Sentence.of(13, "To book a visit is refused for the first of these reasons that applies, with a detail");
        // Each reason of these applies until it is taken away, so that the next one is told.
        VisitBooking x = Desks.small();
        x.addInmate(0, 2);
        x.addRoom(0, 1, false);
        x.addRoom(0, 2, false);
        Desks.bookLawyer(x, 1, 3);
        x.setLevel(1, 0);
        x.set(0, 2);
        x.book(1, 3, 3, 1);
        x.book(1, 1, 3, 2);
        for (int k = 3; k < 60; k++) {
            x.book(0, 4, 5 + k / 4, k % 4);
        }
        x.ban(0, 1, 1, 2, 2);
        x.pass(3);
        x.set(3, 1);
        x.set(0, 1);
        Sentence.due("a day that is over and a ban", () -> x.refusal(1, 2, 2, 1), 1);
        x.ban(0, 1, 2, 3, 3);
        Sentence.due("a ban and the quota", () -> x.refusal(1, 6, 3, 1), 2);
        x.lift(1);
        Sentence.due("the quota and a busy inmate", () -> x.refusal(1, 6, 3, 1), 3);
        x.set(0, 9);
        Sentence.due("a busy inmate and a busy visitor", () -> x.refusal(1, 3, 3, 1), 4);
        Sentence.due("a busy visitor and no room", () -> x.refusal(1, 7, 3, 0), 5);
        Sentence.due("no room and no places", () -> x.refusal(1, 7, 3, 3), 6);
        Sentence.due("no places and 60 visits", () -> x.refusal(1, 6, 3, 3), 7);
        Sentence.due("60 visits", () -> x.refusal(1, 4, 3, 3), 8);
    }

    private static void reportStays() {
        Sentence.of(13, "Throws `UnsupportedOperationException` if it is refused");
        VisitBooking x = Desks.withRoom();
        x.book(0, 1, 2, 3);
        Sentence.fails("refused", () -> x.book(0, 2, 2, 3), UnsupportedOperationException.class);

        Sentence.of(13, "this leaves a report");
        Sentence.reported("the report", x, 0, 11, 4, 0);

        Sentence.of(13, "A booking that is refused leaves a report, which replaces the earlier one and stays until the next");
        x.book(0, 2, 55, 3);
        x.cancel(0);
        x.undo();
        x.save();
        x.restore();
        Check.outcome(() -> x.book(0, 0, 55, 3));
        Check.outcome(() -> x.book(1, 1, 55, 3));
        Sentence.reported("after calls that are not refused", x, 0, 11, 4, 0);
        Check.outcome(() -> x.book(0, 1, 55, 3));
        Sentence.reported("the next one", x, 0, 223, 4, 1);

        Sentence.of(13, "level 0 of it has the inmate, and the day times 4 plus the slot");
        x.addInmate(3, 0);
        x.confine(1, true);
        x.set(0, 0);
        Check.outcome(() -> x.book(1, 1, 0, 0));
        Sentence.reported("the first slot", x, 1, 0, 3, 0);

        Sentence.of(13, "level 1, its cause, the reason and the detail.");
        x.setOpen(0, false);
        Check.outcome(() -> x.book(1, 4, 1, 3));
        Sentence.reported("no room", x, 1, 7, 6, 0);
    }

    private static void refusalChangesNothing() {
        Sentence.of(15, "Nothing changes, and there is no report.");
        Sentence.reads("not refused", Desks.BUSY, x -> x.refusal(0, 1, 5, 0), 0);
        Sentence.reads("the day is over", Desks.BUSY, x -> x.refusal(0, 1, 0, 0), 1);
        Sentence.reads("a ban", Desks.BUSY, x -> x.refusal(0, 8, 10, 0), 2);
        Sentence.reads("busy", Desks.BUSY, x -> x.refusal(0, 1, 4, 3), 4);
        Sentence.reads("60 visits", SIXTY_VISITS, x -> x.refusal(0, 4, 50, 0), 8);
        VisitBooking x = Desks.withRoom();
        x.pass(1);
        Sentence.due("refused", () -> x.refusal(0, 1, 0, 0), 1);
        Sentence.fails("no report", () -> x.report(0, false), ELEMENT);

        Sentence.of(15, "Returns for which reason a visit would be refused now.");
        Sentence.due("the present day", () -> x.refusal(0, 1, 1, 0), 0);

        Sentence.of(15, "Returns the reason, 0 if it would not be refused.");
        Sentence.due("it is booked", () -> x.book(0, 1, 1, 0) + x.refusal(0, 1, 1, 0), 4);
        Sentence.due("the last slot", () -> x.refusal(0, 1, 55, 3), 0);
        Sentence.due("it is booked", () -> x.book(0, 1, 55, 3), 1);
        Sentence.due("the last slot again", () -> x.refusal(0, 2, 55, 3), 4);
        x.cancel(1);
        Sentence.due("it is cancelled", () -> x.refusal(0, 1, 55, 3), 0);
    }

    // ---- the first free slot

    private static void firstFreeSlots() {
        Sentence.of(16, "Returns the first slot, from the present day on, in which a visit would not be refused.");
        Sentence.reads("on a busy desk", Desks.BUSY, x -> x.firstFree(0, 2), 4);
        VisitBooking x = Desks.withRoom();
        Sentence.due("on the first day", () -> x.firstFree(0, 1), 0);
        for (int slot = 0; slot < 4; slot++) {
            int next = slot + 1;
            Sentence.due("slot " + slot, () -> x.book(0, 4, 0, next - 1), slot);
            Sentence.due("the slot after it", () -> x.firstFree(0, 1), next);
        }
        x.cancel(1);
        Sentence.due("one is cancelled", () -> x.firstFree(0, 1), 1);
        x.pass(1);
        Sentence.due("on the present day", () -> x.firstFree(0, 1), 4);

        Sentence.of(16, "Returns the day times 4 plus the slot.");
        x.ban(0, 0, 0, 0, 54);
        x.book(0, 4, 55, 0);
        x.book(0, 4, 55, 1);
        Sentence.due("the day after the ban", () -> x.firstFree(0, 1), 222);
        x.book(0, 4, 55, 2);
        Sentence.due("the last slot of all", () -> x.firstFree(0, 1), 223);
        x.pass(20);
        x.pass(20);
        x.pass(14);
        Sentence.due("on the last day", () -> x.firstFree(0, 1), 223);
    }

    private static void firstFreeNowhere() {
        Sentence.of(16, "Throws `NoSuchElementException` if there is no such slot");
        Sentence.refused("no rooms", Desks::small, x -> x.firstFree(0, 1), ELEMENT);
        Sentence.refused("60 visits", SIXTY_VISITS, x -> x.firstFree(0, 1), ELEMENT);
        Sentence.refused("too few seats", () -> {
            VisitBooking x = Desks.small();
            x.addRoom(0, 2, true);
            return x;
        }, x -> x.firstFree(0, 7), ELEMENT);
        Sentence.refused("a ban of all days", () -> {
            VisitBooking x = Desks.withRoom();
            x.ban(0, 0, 0, 0, 55);
            return x;
        }, x -> x.firstFree(0, 1), ELEMENT);
        Sentence.refused("the last slot is taken", () -> {
            VisitBooking x = Desks.withRoom();
            x.pass(20);
            x.pass(20);
            x.pass(15);
            Desks.bookLawyer(x, 4, 55);
            return x;
        }, x -> x.firstFree(0, 1), ELEMENT);
    }
}
