import java.util.NoSuchElementException;

/** Boundary cases of the promises 4, 5, 7, 8, 11 and 12: rooms, and inmates who are moved or confined. */
final class BoundariesOfRooms {
    private static final Class<IllegalArgumentException> RANGE = IllegalArgumentException.class;
    private static final Class<IllegalStateException> STATE = IllegalStateException.class;
    private static final Class<IndexOutOfBoundsException> INDEX = IndexOutOfBoundsException.class;
    private static final Class<NoSuchElementException> ELEMENT = NoSuchElementException.class;
    private static final Whole.Maker SIX_ROOMS = BoundariesOfRooms::sixRooms;

    private BoundariesOfRooms() {
    }

    static void all() {
        roomsInRange();
        sixthRoom();
        openAndClosed();
        noticesOfClosing();
        closingInOrder();
        closingGivesBack();
        openingKeepsRooms();
        openingForWishes();
        movedInRange();
        movedAlsoToSameWing();
        movedInOrder();
        movedWithoutRoom();
        movedNearPartner();
        confinedAndNot();
        confinedWithoutGlass();
        roomNumbers();
        orderedPlaces();
        orderOfRooms();
    }

    private static VisitBooking sixRooms() {
        VisitBooking x = Desks.small();
        for (int k = 0; k < 6; k++) {
            x.addRoom(k % 4, 1 + k % 3, k % 2 == 0);
        }
        return x;
    }

    // ---- promise 4

    private static void roomsInRange() {
        Sentence.of(4, "Throws `IllegalArgumentException` if the wing or the number of seats is out of range");
        for (Whole.Maker maker : new Whole.Maker[] {Desks.EMPTY, Desks.BUSY}) {
            Sentence.refused("wing", maker, Sentence.outside(0, 3), (x, wing) -> x.addRoom(wing, 1, true), RANGE);
            Sentence.refused("seats", maker, Sentence.outside(1, 3), (x, seats) -> x.addRoom(0, seats, true), RANGE);
        }

        for (int wing = 0; wing <= 3; wing++) {
            for (int seats = 1; seats <= 3; seats++) {
                for (int glass = 0; glass <= 1; glass++) {
                    added(new int[] {wing, seats, glass});
                }
            }
        }
    }

    private static void added(int[] room) {
        VisitBooking x = new VisitBooking();
        String what = "wing " + room[0] + ", seats " + room[1] + ", glass " + room[2];
        Sentence.of(4, "Adds a room.");
        Sentence.due("no rooms", () -> x.account(7), 0);
        Sentence.of(4, "Returns the number of the room.");
        Sentence.due(what, () -> x.addRoom(room[0], room[1], room[2] == 1), 0);
        Sentence.of(4, "A room is in a wing, has 1 to 3 seats for visitors, and is a glass room or not");
        for (int k = 0; k < 3; k++) {
            int number = k;
            Sentence.due(what + ", number " + k, () -> x.room(0, number), room[number]);
        }
        Sentence.of(4, "it is open or closed, at first open");
        Sentence.due(what, () -> x.room(0, 3), 1);
    }

    private static void sixthRoom() {
        Sentence.of(4, "Throws `IllegalStateException` if there are 6 rooms");
        Sentence.refused("a seventh", SIX_ROOMS, x -> x.addRoom(0, 1, true), STATE);

        Sentence.of(4, "If several exceptions apply, the one named first is thrown.");
        Sentence.refused("wing", SIX_ROOMS, Sentence.outside(0, 3), (x, wing) -> x.addRoom(wing, 1, true), RANGE);
        Sentence.refused("seats", SIX_ROOMS, Sentence.outside(1, 3), (x, seats) -> x.addRoom(0, seats, true), RANGE);

        Sentence.of(4, "it is open or closed, at first open");
        VisitBooking y = Desks.small();
        y.save();
        y.addRoom(0, 1, true);
        y.setOpen(0, false);
        y.restore();
        Sentence.due("where a closed one was", () -> y.room(y.addRoom(0, 1, false), 3), 1);
        Sentence.due("no glass room", () -> y.room(0, 2), 0);

        Sentence.of(4, "There are at most 6 rooms, numbered from 0 in the order in which they were added.");
        VisitBooking x = new VisitBooking();
        for (int k = 0; k < 6; k++) {
            int number = k;
            Sentence.due("room " + k, () -> x.addRoom(number % 4, 1 + number % 3, false), number);
            Sentence.due("rooms", () -> x.account(7), number + 1);
        }
        for (int k = 0; k < 6; k++) {
            int number = k;
            Sentence.due("wing of room " + k, () -> x.room(number, 0), number % 4);
        }
    }

    // ---- promise 5

    private static void openAndClosed() {
        Sentence.of(5, "Throws `IndexOutOfBoundsException` if there is no such room");
        Sentence.refused("no rooms", Desks.EMPTY, x -> x.setOpen(0, true), INDEX);
        int[] numbers = Sentence.outside(0, Desks.ROOMS - 1);
        Sentence.refused("to open", Desks.BUSY, numbers, (x, room) -> x.setOpen(room, true), INDEX);
        Sentence.refused("to close", Desks.BUSY, numbers, (x, room) -> x.setOpen(room, false), INDEX);

        Sentence.of(5, "Opens or closes a room.");
        VisitBooking x = sixRooms();
        for (int room : new int[] {0, 5}) {
            for (int is : new int[] {1, 0, 0, 1, 1}) {
                Sentence.due("room " + room + " to " + is, () -> x.setOpen(room, is == 1), 0);
                Sentence.due("room " + room + " is then", () -> x.room(room, 3), is);
            }
        }
        Sentence.due("no other room", () -> x.setOpen(5, false) + x.room(4, 3), 1);
    }

    private static void noticesOfClosing() {
        Sentence.of(5, "Returns the number of notices that come by that.");
        VisitBooking x = Desks.withRoom();
        x.addRoom(1, 1, true);
        Sentence.due("without visits", () -> x.setOpen(0, false), 0);
        x.setOpen(0, true);
        x.book(0, 1, 0, 0);
        x.book(0, 3, 0, 1);
        Sentence.due("another room", () -> x.setOpen(1, false), 0);
        x.setOpen(1, true);
        Sentence.due("one gets another room, one is cancelled", () -> x.setOpen(0, false), 2);
        Sentence.due("another room", () -> x.notice(0, true), 0);
        Sentence.due("cancelled as its room was closed", () -> x.notice(1, true), 2);
        Sentence.due("closed again", () -> x.setOpen(0, false), 0);
        Sentence.due("opened", () -> x.setOpen(0, true), 0);
        Sentence.due("two notices", () -> x.account(10), 2);

        Sentence.of(5, "Notices count also beyond those that are kept.");
        for (int visits : new int[] {19, 20, 21, 60}) {
            VisitBooking y = Desks.withRoom();
            Desks.bookLawyer(y, visits, 0);
            Sentence.due(visits + " are cancelled", () -> y.setOpen(0, false), visits);
            Sentence.due("so many are kept", () -> y.account(10), Math.min(20, visits));
            Sentence.due("the oldest one", () -> y.notice(0, false), Math.max(0, visits - 20));
            Sentence.due("the latest one", () -> y.notice(y.account(10) - 1, false), visits - 1);
        }
    }

    private static void closingInOrder() {
        Sentence.of(5, "the booked visits of the inmate, or those in this room, are looked at in the order of their days");
        VisitBooking x = Desks.wide();
        x.book(0, 4, 5, 3);
        x.book(1, 8, 5, 0);
        x.book(0, 4, 0, 1);
        x.book(1, 8, 55, 0);
        x.book(0, 4, 0, 3);
        x.book(1, 8, 0, 2);
        x.book(2, 1, 0, 2);
        Sentence.due("six in this room", () -> x.setOpen(0, false), 6);
        int[] order = {2, 5, 4, 1, 0, 3};
        for (int k = 0; k < 6; k++) {
            int place = k;
            Sentence.due("notice " + k, () -> x.notice(place, false), order[place]);
        }
        Sentence.due("the one in the other room stays", () -> x.visit(6, 4), 1);
        Sentence.due("the one beside it goes farther", () -> x.visit(5, 4), 2);
    }

    private static void closingGivesBack() {
        Sentence.of(5, "each one gives its room and its places for searches back, and gets the first room that can be had");
        VisitBooking x = Desks.small();
        x.addRoom(0, 2, false);
        x.addRoom(1, 2, false);
        x.set(3, 2);
        x.book(0, 3, 0, 0);
        x.book(0, 3, 0, 1);
        Sentence.due("no places are left", () -> x.slot(0, 0, true), 0);
        Sentence.due("both get the other room", () -> x.setOpen(0, false), 2);
        Sentence.due("of kind 0", () -> x.notice(1, true), 0);
        Sentence.due("no places are left", () -> x.slot(0, 0, true), 0);
        x.setOpen(0, true);
        x.set(3, 1);
        Sentence.due("one place is too few", () -> x.setOpen(1, false), 2);

        Sentence.of(5, "if there is none, the visit is cancelled");
        Sentence.due("both are cancelled", () -> x.account(4), 2);
        Sentence.due("of kind 2", () -> x.notice(3, true), 2);
        Sentence.due("the room that it had last", () -> x.visit(1, 4), 1);
        Sentence.due("its places are free", () -> x.slot(0, 0, true), 1);

        Sentence.of(5, "and no wishes are looked at when one of them is cancelled.");
        VisitBooking y = Desks.withRoom();
        y.addRoom(0, 1, true);
        y.book(0, 3, 0, 0);
        y.wish(0, 4, 0, 0);
        Sentence.due("one is cancelled", () -> y.setOpen(0, false) + y.account(4), 2);
        Sentence.due("the wish waits", () -> y.account(9), 1);
    }

    private static void openingKeepsRooms() {
        Sentence.of(5, "or a room is opened, visits keep their rooms.");
        VisitBooking x = Desks.wide();
        x.setOpen(0, false);
        x.book(0, 1, 3, 0);
        Sentence.due("in the next wing", () -> x.visit(0, 4), 1);
        Sentence.due("the closer room is opened", () -> x.setOpen(0, true), 0);
        Sentence.due("the visit stays", () -> x.visit(0, 4), 1);
        Sentence.due("no notice", () -> x.account(10), 0);
    }

    private static void openingForWishes() {
        Sentence.of(5, "and whenever a room that was closed is opened or a ban is lifted, the wishes are looked at");
        VisitBooking x = Desks.wide();
        x.wish(0, 1, 9, 9);
        Sentence.due("an open room is opened", () -> x.setOpen(3, true) + x.account(1), 0);
        Sentence.due("a room is closed", () -> x.setOpen(3, false) + x.account(1), 0);
        Sentence.due("a closed room is closed", () -> x.setOpen(3, false) + x.account(1), 0);
        Sentence.due("the closed room is opened", () -> x.setOpen(3, true), 1);
        Sentence.due("in the closest room, whichever was opened", () -> x.visit(0, 4), 0);
        Sentence.due("of kind 3", () -> x.notice(0, true), 3);
        Sentence.due("no wishes are left", () -> x.account(9), 0);
        x.setOpen(3, false);
        for (int k = 0; k < 6; k++) {
            x.wish(k % 3, 4, 20, 20);
        }
        Sentence.due("as many as the slots of the day", () -> x.setOpen(3, true), 4);
        Sentence.due("two wait", () -> x.account(9), 2);
    }

    // ---- promise 7

    private static void movedInRange() {
        Sentence.of(7, "Throws `IndexOutOfBoundsException` if there is no such inmate");
        Sentence.refused("inmate", Desks.BUSY, Sentence.outside(0, Desks.INMATES - 1), (x, i) -> x.move(i, 0), INDEX);
        Sentence.refused("no inmates", Desks.EMPTY, x -> x.move(0, 0), INDEX);

        Sentence.of(7, "Throws `IllegalArgumentException` if the wing is out of range");
        Sentence.refused("wing", Desks.BUSY, Sentence.outside(0, 3), (x, wing) -> x.move(0, wing), RANGE);

        Sentence.of(7, "If several exceptions apply, the one named first is thrown.");
        Sentence.refused("no inmate, no wing", Desks.BUSY, x -> x.move(Desks.INMATES, 4), INDEX);

        Sentence.of(7, "Moves an inmate to another wing, or to the same one.");
        VisitBooking x = Desks.EMPTY.make();
        x.addInmate(2, 0);
        x.addInmate(1, 0);
        for (int wing : new int[] {0, 3, 3, 1, 2, 0}) {
            Sentence.due("to " + wing, () -> x.move(0, wing), 0);
            Sentence.due("then in", () -> x.inmate(0, 0), wing);
        }
        Sentence.due("the other one stays", () -> x.inmate(1, 0), 1);
    }

    private static void movedAlsoToSameWing() {
        Sentence.of(7, "When an inmate is moved, also to the same wing, or is confined to glass, also anew");
        VisitBooking x = Desks.wide();
        x.setOpen(0, false);
        x.book(0, 1, 3, 0);
        x.book(1, 2, 3, 1);
        x.setOpen(0, true);
        Sentence.due("to the same wing", () -> x.move(0, 0), 1);
        Sentence.due("the closer room", () -> x.visit(0, 4), 0);
        Sentence.due("the other one stays", () -> x.visit(1, 4), 1);

        Sentence.of(7, "if it is another one than before, there is a notice");
        Sentence.due("the same room again", () -> x.move(0, 0), 0);
        Sentence.due("one notice", () -> x.account(10), 1);
        Sentence.due("of kind 0", () -> x.notice(0, true), 0);
        Sentence.due("of this visit", () -> x.notice(0, false), 0);

        Sentence.of(7, "Returns the number of notices that come by that.");
        Sentence.due("to another wing", () -> x.move(0, 3), 1);
        Sentence.due("one without visits", () -> x.move(2, 3), 0);
        x.cancel(0);
        Sentence.due("a cancelled one is not looked at", () -> x.move(0, 0), 0);
        x.pass(4);
        Sentence.due("a held one is not looked at", () -> x.move(1, 3), 0);
        Sentence.due("it keeps its room", () -> x.visit(1, 4), 1);
    }

    private static void movedInOrder() {
        Sentence.of(7, "are looked at in the order of their days and then slots");
        VisitBooking x = Desks.wide();
        x.book(0, 4, 9, 0);
        x.book(0, 4, 8, 3);
        x.book(0, 4, 8, 0);
        x.book(0, 4, 10, 1);
        x.book(0, 4, 8, 2);
        Sentence.due("all of them", () -> x.move(0, 2), 5);
        int[] order = {2, 4, 1, 0, 3};
        for (int k = 0; k < 5; k++) {
            int place = k;
            Sentence.due("notice " + k, () -> x.notice(place, false), order[place]);
        }

        Sentence.of(7, "Visits that get other rooms are looked at one after the other, so that later ones have their rooms");
        Sentence.due("all are in one room, each in its slot", () -> x.room(2, 4), 5);
        x.book(1, 1, 9, 0);
        x.book(1, 1, 8, 0);
        x.move(1, 2);
        Sentence.due("the closest one is taken, then the one with the lower number", () -> x.room(1, 4), 2);
        x.move(0, 0);
        x.move(1, 2);
        Sentence.due("it is free then", () -> x.room(2, 4), 2);
    }

    private static void movedWithoutRoom() {
        Sentence.of(7, "bans of visitors and of kinds, and quotas, are not asked again");
        VisitBooking x = Desks.small();
        x.addRoom(0, 2, false);
        x.book(0, 3, 0, 0);
        x.book(0, 1, 1, 0);
        x.book(0, 2, 2, 0);
        x.set(2, 0);
        Sentence.due("no quota is left", () -> x.move(0, 3), 0);
        Sentence.due("all stay", () -> x.account(2), 3);

        Sentence.of(7, "and no wishes are looked at when one of them is cancelled.");
        x.wish(0, 4, 0, 0);
        x.set(3, 1);
        Sentence.due("one needs two places", () -> x.move(0, 0), 1);
        Sentence.due("it is cancelled", () -> x.visit(0, 5), 2);
        Sentence.due("of kind 2", () -> x.notice(0, true), 2);
        Sentence.due("the wish waits", () -> x.account(9), 1);
        Sentence.due("others need one", () -> x.account(2), 2);
        x.set(3, 0);
        Sentence.due("there is none", () -> x.move(0, 1), 2);
        Sentence.due("all are cancelled", () -> x.account(4), 3);
    }

    private static void movedNearPartner() {
        Sentence.of(7, "who may not have visits in the same slot in rooms whose distance is less than 2.");
        VisitBooking x = Desks.wide();
        x.ban(2, 0, 1, 5, 5);
        x.book(0, 1, 5, 0);
        x.book(1, 2, 5, 0);
        Sentence.due("two wings apart", () -> x.visit(1, 4), 2);
        Sentence.due("moved to the next wing", () -> x.move(1, 1), 0);
        Sentence.due("moved to the last wing", () -> x.move(1, 3), 1);
        Sentence.due("the last room", () -> x.visit(1, 4), 3);
        Sentence.due("the other one may come to the next wing", () -> x.move(0, 1), 1);
        Sentence.due("but no farther", () -> x.move(0, 2), 0);
        Sentence.due("its room", () -> x.visit(0, 4), 1);
        x.setOpen(3, false);
        Sentence.due("none is left for the second one", () -> x.visit(1, 5), 2);
        Sentence.due("of kind 2", () -> x.notice(x.account(10) - 1, true), 2);
    }

    // ---- promise 8

    private static void confinedAndNot() {
        Sentence.of(8, "Throws `IndexOutOfBoundsException` if there is no such inmate");
        int[] numbers = Sentence.outside(0, Desks.INMATES - 1);
        Sentence.refused("no inmates", Desks.EMPTY, x -> x.confine(0, true), INDEX);
        Sentence.refused("to confine", Desks.BUSY, numbers, (x, inmate) -> x.confine(inmate, true), INDEX);
        Sentence.refused("to end that", Desks.BUSY, numbers, (x, inmate) -> x.confine(inmate, false), INDEX);

        Sentence.of(8, "Confines an inmate to glass, or ends that.");
        VisitBooking x = Desks.small();
        x.addRoom(0, 1, false);
        x.addRoom(3, 1, true);
        x.addInmate(0, 2);
        for (int is : new int[] {0, 1, 1, 0, 0, 1, 0}) {
            Sentence.due("to " + is, () -> x.confine(0, is == 1), 0);
            Sentence.due("then", () -> x.inmate(0, 2), is);
            Sentence.due("the other one", () -> x.inmate(1, 2), 0);
        }

        Sentence.of(8, "Returns the number of notices that come by that.");
        x.book(0, 1, 5, 1);
        x.book(0, 2, 5, 0);
        Sentence.due("not confined anyway", () -> x.confine(0, false), 0);
        Sentence.due("both get the glass room", () -> x.confine(0, true), 2);
        Sentence.due("the earlier slot first", () -> x.notice(0, false), 1);
        Sentence.due("the places are given back", () -> x.slot(5, 1, true), 4);
        Sentence.due("both have it", () -> x.confine(0, true), 0);

        Sentence.of(8, "When an inmate is not confined to glass any more");
        Sentence.due("no notices", () -> x.confine(0, false), 0);
        Sentence.due("visits keep their rooms", () -> x.room(1, 4), 2);
        Sentence.due("a new one is in the closer room", () -> x.visit(x.book(0, 1, 5, 2), 4), 0);
    }

    private static void confinedWithoutGlass() {
        Sentence.of(8, "or is confined to glass, also anew");
        VisitBooking x = Desks.small();
        x.addRoom(0, 1, false);
        x.addRoom(1, 1, true);
        x.addRoom(2, 1, true);
        x.setOpen(1, false);
        x.confine(0, true);
        x.book(0, 1, 5, 1);
        x.setOpen(1, true);
        Sentence.due("a closer glass room is open now", () -> x.confine(0, true), 1);
        Sentence.due("the closer one", () -> x.visit(0, 4), 1);
        x.book(0, 1, 5, 2);
        x.confine(0, false);
        x.book(0, 1, 5, 3);
        x.setOpen(1, false);
        x.wish(0, 4, 5, 5);

        Sentence.of(8, "it is a glass room if the inmate is confined to glass");
        Sentence.due("all three leave the room that is no glass room", () -> x.confine(0, true), 3);
        x.setOpen(2, false);
        Sentence.due("no glass room is left", () -> x.account(4), 3);
        Sentence.due("none is possible", () -> x.refusal(0, 1, 5, 1), 6);
        Sentence.due("the wish waits", () -> x.account(9), 1);
        Sentence.due("of kind 2", () -> x.notice(x.account(10) - 1, true), 2);
    }

    // ---- promises 11 and 12

    private static void roomNumbers() {
        Sentence.of(11, "Throws `IndexOutOfBoundsException` if there is no such room");
        Sentence.refused("room", Desks.BUSY, Sentence.outside(0, Desks.ROOMS - 1), (x, room) -> x.room(room, 0), INDEX);
        Sentence.refused("no rooms", Desks.EMPTY, x -> x.room(0, 0), INDEX);

        Sentence.of(11, "Throws `IllegalArgumentException` if what is out of range");
        Sentence.refused("what", Desks.BUSY, Sentence.outside(0, 4), (x, what) -> x.room(0, what), RANGE);

        Sentence.of(11, "If several exceptions apply, the one named first is thrown.");
        Sentence.refused("no room, no number", Desks.BUSY, x -> x.room(Desks.ROOMS, 5), INDEX);

        Sentence.of(11, "- `what`: 0 the wing; 1 the seats; 2 whether it is a glass room (1) or not (0)");
        int[][] numbers = {{0, 2, 0, 1, 1}, {2, 3, 1, 1, 3}, {3, 1, 0, 1, 0}};
        for (int room = 0; room < Desks.ROOMS; room++) {
            for (int what = 0; what <= 4; what++) {
                int r = room;
                int w = what;
                Sentence.reads("number " + what + " of " + room, Desks.BUSY, x -> x.room(r, w), numbers[r][w]);
            }
        }

        Sentence.of(11, "Returns a number of a room.");
        VisitBooking x = Desks.BUSY.make();
        x.setOpen(2, false);
        Sentence.due("closed", () -> x.room(2, 3), 0);

        Sentence.of(11, "Returns the number.");
        x.pass(2);
        Sentence.due("on the day of the visit", () -> x.room(1, 4), 3);
        x.pass(1);
        Sentence.due("on the next day", () -> x.room(1, 4), 2);
        x.cancel(3);
        Sentence.due("a cancelled one", () -> x.room(0, 4), 0);
    }

    private static void orderedPlaces() {
        Sentence.of(12, "Throws `IndexOutOfBoundsException` if there is no such inmate");
        Sentence.refused("inmate", Desks.BUSY, Sentence.outside(0, Desks.INMATES - 1), (x, i) -> x.ordered(i, 0), INDEX);

        Sentence.of(12, "Throws `NoSuchElementException` if there is no such place");
        Sentence.refused("place", Desks.BUSY, Sentence.outside(0, Desks.ROOMS - 1), (x, place) -> x.ordered(0, place),
                ELEMENT);
        Sentence.refused("place of six", SIX_ROOMS, Sentence.outside(0, 5), (x, place) -> x.ordered(0, place), ELEMENT);
        Sentence.refused("no rooms", Desks::small, x -> x.ordered(0, 0), ELEMENT);

        Sentence.of(12, "If several exceptions apply, the one named first is thrown.");
        Sentence.refused("no inmate, no place", Desks.BUSY, x -> x.ordered(Desks.INMATES, Desks.ROOMS), INDEX);

        Sentence.of(12, "- `place`: the place, from 0");
        int[] order = {0, 4, 1, 5, 2, 3};
        for (int place = 0; place < 6; place++) {
            int p = place;
            Sentence.reads("place " + place, SIX_ROOMS, x -> x.ordered(0, p), order[p]);
        }

        Sentence.of(12, "closed ones count.");
        VisitBooking x = sixRooms();
        x.setOpen(0, false);
        x.setOpen(3, false);
        Sentence.due("a closed one at the first place", () -> x.ordered(0, 0), 0);
        Sentence.due("a closed one at the last place", () -> x.ordered(0, 5), 3);
    }

    private static void orderOfRooms() {
        Sentence.of(12, "Returns the room at a place in the order of rooms for an inmate");
        VisitBooking one = Desks.withRoom();
        Sentence.due("the only room", () -> one.ordered(0, 0), 0);

        Sentence.of(12, "The distance of a room to an inmate is the difference of the numbers of their wings, without sign");
        VisitBooking x = Desks.small();
        x.addRoom(0, 1, true);
        x.addRoom(3, 1, true);
        x.addRoom(1, 1, true);
        int[][] first = {{0, 2, 1}, {2, 0, 1}, {1, 2, 0}, {1, 2, 0}};
        for (int wing = 0; wing <= 3; wing++) {
            x.move(0, wing);
            for (int place = 0; place < 3; place++) {
                int w = wing;
                int p = place;
                Sentence.due("from wing " + wing + ", place " + place, () -> x.ordered(0, p), first[w][p]);
            }
        }

        Sentence.of(12, "The order of rooms for an inmate is by their distance to the inmate, the least one first");
        VisitBooking y = Desks.small();
        y.move(0, 1);
        y.addRoom(2, 3, false);
        y.addRoom(0, 2, true);
        y.addRoom(2, 2, false);
        y.addRoom(1, 3, true);
        y.addRoom(3, 1, true);
        y.addRoom(0, 3, false);
        int[] order = {3, 1, 2, 0, 5, 4};
        for (int place = 0; place < 6; place++) {
            int p = place;
            Sentence.due("place " + place, () -> y.ordered(0, p), order[p]);
        }

        Sentence.of(12, "Returns the room.");
        y.setOpen(3, false);
        y.confine(0, true);
        Sentence.due("closed, and no glass room for one who is confined", () -> y.ordered(0, 2), 2);
    }
}
