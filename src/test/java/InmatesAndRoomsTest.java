import java.util.NoSuchElementException;

/** Promises 1 to 12: a new object, inmates, visitors, rooms, settings. */
public final class InmatesAndRoomsTest {
    private static final int[] OUTSIDE = {-1, Integer.MIN_VALUE, Integer.MAX_VALUE};

    public static void main(String[] args) {
        promise1();
        promise2();
        promise3();
        promise4();
        promise5();
        promise5Wishes();
        promise6();
        promise7();
        promise7Cancels();
        promise8();
        promise9();
        promise10();
        promise11();
        promise12();
        Check.end();
    }

    private static void promise1() {
        VisitBooking x = new VisitBooking();
        for (int what = 0; what <= 12; what++) {
            int account = what;
            Check.due("1: account " + what + " of a new desk", () -> x.account(account), 0);
        }
        Check.due("1: quota of level 0", () -> x.set(0, 1), 1);
        Check.due("1: quota of level 1", () -> x.set(1, 2), 2);
        Check.due("1: quota of level 2", () -> x.set(2, 3), 3);
        Check.due("1: places for searches", () -> x.set(3, 4), 4);
        Check.due("1: places in the last slot", () -> x.slot(55, 3, true), 4);
        VisitBooking other = new VisitBooking();
        x.addInmate(0, 0);
        Check.due("1: desks are apart", () -> other.account(5), 0);
        Check.fails("1: nothing saved", () -> other.restore(), IllegalStateException.class);
        Check.fails("1: no change", () -> other.undo(), IllegalStateException.class);
        Check.fails("1: no report", () -> other.report(0, false), NoSuchElementException.class);
        Check.due("1: an empty buffer", () -> other.feed('x'), 1);
    }

    private static void promise2() {
        VisitBooking x = new VisitBooking();
        for (int k = 0; k < 9; k++) {
            int number = k;
            Check.due("2: addInmate", () -> x.addInmate(number % 4, number % 3), number);
            Check.due("2: wing", () -> x.inmate(number, 0), number % 4);
            Check.due("2: level", () -> x.inmate(number, 1), number % 3);
            Check.due("2: not confined", () -> x.inmate(number, 2), 0);
        }
        Check.fails("2: wing 4", () -> x.addInmate(4, 0), IllegalArgumentException.class);
        Check.fails("2: level 3", () -> x.addInmate(0, 3), IllegalArgumentException.class);
        for (int odd : OUTSIDE) {
            Check.fails("2: wing " + odd, () -> x.addInmate(odd, 0), IllegalArgumentException.class);
            Check.fails("2: level " + odd, () -> x.addInmate(0, odd), IllegalArgumentException.class);
        }
        Check.due("2: the tenth", () -> x.addInmate(3, 2), 9);
        Check.fails("2: an eleventh", () -> x.addInmate(0, 0), IllegalStateException.class);
        Check.fails("2: range ahead of number", () -> x.addInmate(4, 0), IllegalArgumentException.class);
        Check.due("2: 10 inmates", () -> x.account(5), 10);
        VisitBooking y = new VisitBooking();
        y.save();
        y.addInmate(0, 0);
        y.confine(0, true);
        y.restore();
        y.addInmate(1, 1);
        Check.due("2: not confined, whoever was there before", () -> y.inmate(0, 2), 0);
    }

    private static void promise3() {
        VisitBooking x = new VisitBooking();
        for (int k = 0; k < 12; k++) {
            int number = k;
            Check.due("3: addVisitor", () -> x.addVisitor(number % 3), number);
        }
        Check.fails("3: a thirteenth", () -> x.addVisitor(0), IllegalStateException.class);
        Check.fails("3: kind 3", () -> x.addVisitor(3), IllegalArgumentException.class);
        for (int odd : OUTSIDE) {
            Check.fails("3: kind " + odd, () -> x.addVisitor(odd), IllegalArgumentException.class);
            Check.fails("3: kind " + odd, () -> new VisitBooking().addVisitor(odd), IllegalArgumentException.class);
        }
        Check.due("3: 12 visitors", () -> x.account(6), 12);
    }

    private static void promise4() {
        VisitBooking x = new VisitBooking();
        Check.due("4: addRoom", () -> x.addRoom(3, 1, true), 0);
        Check.due("4: addRoom", () -> x.addRoom(0, 3, false), 1);
        int[] first = {3, 1, 1, 1, 0};
        int[] second = {0, 3, 0, 1, 0};
        for (int k = 0; k < 5; k++) {
            int what = k;
            Check.due("4: first room " + k, () -> x.room(0, what), first[what]);
            Check.due("4: second room " + k, () -> x.room(1, what), second[what]);
        }
        Check.fails("4: wing 4", () -> x.addRoom(4, 1, true), IllegalArgumentException.class);
        Check.fails("4: no seats", () -> x.addRoom(0, 0, true), IllegalArgumentException.class);
        Check.fails("4: 4 seats", () -> x.addRoom(0, 4, true), IllegalArgumentException.class);
        for (int odd : OUTSIDE) {
            Check.fails("4: wing " + odd, () -> x.addRoom(odd, 1, true), IllegalArgumentException.class);
            Check.fails("4: seats " + odd, () -> x.addRoom(0, odd, true), IllegalArgumentException.class);
        }
        for (int k = 2; k < 6; k++) {
            int number = k;
            Check.due("4: addRoom", () -> x.addRoom(1, 2, false), number);
        }
        Check.fails("4: a seventh", () -> x.addRoom(0, 1, true), IllegalStateException.class);
        Check.fails("4: range ahead of number", () -> x.addRoom(0, 4, true), IllegalArgumentException.class);
        Check.due("4: 6 rooms", () -> x.account(7), 6);
    }

    private static void promise5() {
        VisitBooking x = new VisitBooking();
        x.addInmate(0, 2);
        x.addVisitor(0);
        x.addRoom(0, 1, true);
        x.addRoom(1, 1, true);
        x.book(0, 1, 4, 2);
        x.book(0, 1, 4, 1);
        x.book(0, 1, 2, 3);
        Check.due("5: close room 0", () -> x.setOpen(0, false), 3);
        Check.due("5: closed", () -> x.room(0, 3), 0);
        Check.due("5: visits have the other room", () -> x.room(1, 4), 3);
        Check.due("5: the first day first", () -> x.notice(0, false), 2);
        Check.due("5: then the slots", () -> x.notice(1, false), 1);
        Check.due("5: the last slot last", () -> x.notice(2, false), 0);
        Check.due("5: kind of notice", () -> x.notice(2, true), 0);
        Check.due("5: close it again", () -> x.setOpen(0, false), 0);
        Check.due("5: open it", () -> x.setOpen(0, true), 0);
        Check.due("5: visits keep their rooms", () -> x.room(1, 4), 3);
        Check.due("5: open an open one", () -> x.setOpen(0, true), 0);
        x.setOpen(0, false);
        Check.due("5: close the other one", () -> x.setOpen(1, false), 3);
        Check.due("5: all are cancelled", () -> x.account(4), 3);
        Check.due("5: kind of notice", () -> x.notice(5, true), 2);
        Check.due("5: the room that it had last", () -> x.visit(0, 4), 1);
        Check.fails("5: no such room", () -> x.setOpen(2, true), IndexOutOfBoundsException.class);
        for (int odd : OUTSIDE) {
            Check.fails("5: room " + odd, () -> x.setOpen(odd, false), IndexOutOfBoundsException.class);
        }
    }

    private static void promise5Wishes() {
        VisitBooking x = new VisitBooking();
        x.addInmate(0, 2);
        x.addInmate(0, 2);
        x.addVisitor(0);
        x.addVisitor(0);
        x.addRoom(0, 1, true);
        x.setOpen(0, false);
        x.wish(0, 1, 5, 5);
        x.wish(1, 2, 5, 5);
        Check.due("5: wishes are booked", () -> x.setOpen(0, true), 2);
        Check.due("5: in their order", () -> x.visit(0, 0), 0);
        Check.due("5: the next slot", () -> x.visit(1, 3), 1);
        x.wish(0, 1, 7, 7);
        Check.due("5: an open room is not opened", () -> x.setOpen(0, true), 0);
        Check.due("5: the wish stays", () -> x.account(9), 1);
        Check.due("5: no wishes when one is closed", () -> x.setOpen(0, false), 2);
        Check.due("5: the wish stays", () -> x.account(9), 1);
    }

    private static void promise6() {
        VisitBooking x = new VisitBooking();
        x.addInmate(0, 2);
        x.addVisitor(0);
        x.addRoom(0, 1, true);
        x.book(0, 1, 0, 0);
        x.book(0, 1, 0, 1);
        Check.due("6: previous level", () -> x.setLevel(0, 0), 2);
        Check.due("6: level", () -> x.inmate(0, 1), 0);
        Check.due("6: visits stay", () -> x.account(2), 2);
        Check.due("6: the quota is less now", () -> x.refusal(0, 1, 0, 2), 3);
        Check.due("6: previous level", () -> x.setLevel(0, 2), 0);
        Check.due("6: the quota is more now", () -> x.refusal(0, 1, 0, 2), 0);
        Check.due("6: the same level", () -> x.setLevel(0, 2), 2);
        Check.fails("6: no such inmate", () -> x.setLevel(1, 0), IndexOutOfBoundsException.class);
        Check.fails("6: no such inmate, nor level", () -> x.setLevel(1, 3), IndexOutOfBoundsException.class);
        Check.fails("6: level 3", () -> x.setLevel(0, 3), IllegalArgumentException.class);
        for (int odd : OUTSIDE) {
            Check.fails("6: inmate " + odd, () -> x.setLevel(odd, 0), IndexOutOfBoundsException.class);
            Check.fails("6: level " + odd, () -> x.setLevel(0, odd), IllegalArgumentException.class);
        }
        Check.due("6: the level stays", () -> x.inmate(0, 1), 2);
    }

    private static void promise7() {
        VisitBooking x = new VisitBooking();
        x.addInmate(0, 2);
        x.addInmate(0, 2);
        x.addVisitor(0);
        x.addVisitor(0);
        x.addRoom(0, 1, true);
        x.addRoom(3, 1, true);
        x.book(0, 1, 1, 0);
        x.book(0, 1, 0, 3);
        x.book(1, 2, 0, 0);
        Check.due("7: two get another room", () -> x.move(0, 3), 2);
        Check.due("7: wing", () -> x.inmate(0, 0), 3);
        Check.due("7: the earlier one first", () -> x.notice(0, false), 1);
        Check.due("7: the later one then", () -> x.notice(1, false), 0);
        Check.due("7: kind", () -> x.notice(1, true), 0);
        Check.due("7: the closer room", () -> x.visit(0, 4), 1);
        Check.due("7: visits of others stay", () -> x.visit(2, 4), 0);
        Check.due("7: the same wing", () -> x.move(0, 3), 0);
        x.setOpen(1, false);
        x.setOpen(1, true);
        Check.due("7: visits keep rooms", () -> x.visit(0, 4), 0);
        Check.due("7: also to the same wing they are looked at", () -> x.move(0, 3), 2);
        Check.due("7: the closer room", () -> x.visit(0, 4), 1);
        Check.fails("7: no such inmate", () -> x.move(2, 0), IndexOutOfBoundsException.class);
        Check.fails("7: no such inmate, nor wing", () -> x.move(2, 4), IndexOutOfBoundsException.class);
        Check.fails("7: wing 4", () -> x.move(0, 4), IllegalArgumentException.class);
        for (int odd : OUTSIDE) {
            Check.fails("7: inmate " + odd, () -> x.move(odd, 0), IndexOutOfBoundsException.class);
            Check.fails("7: wing " + odd, () -> x.move(0, odd), IllegalArgumentException.class);
        }
    }

    private static void promise7Cancels() {
        VisitBooking x = new VisitBooking();
        x.addInmate(0, 2);
        x.addVisitor(0);
        x.addVisitor(0);
        x.addRoom(0, 2, false);
        x.book(0, 3, 0, 0);
        x.book(0, 1, 1, 0);
        x.ban(0, 0, 1, 5, 6);
        x.set(2, 0);
        x.set(3, 1);
        Check.due("7: fewer places than it took", () -> x.slot(0, 0, true), -1);
        x.wish(0, 1, 0, 0);
        Check.due("7: one can be had no more", () -> x.move(0, 0), 1);
        Check.due("7: it is cancelled", () -> x.visit(0, 5), 2);
        Check.due("7: a notice tells it", () -> x.notice(0, true), 2);
        Check.due("7: quotas are not asked again", () -> x.visit(1, 5), 0);
        Check.due("7: no wishes are looked at", () -> x.account(9), 1);
    }

    private static void promise8() {
        VisitBooking x = new VisitBooking();
        x.addInmate(0, 2);
        x.addVisitor(0);
        x.addRoom(0, 1, false);
        x.addRoom(2, 1, true);
        x.book(0, 1, 0, 0);
        x.book(0, 1, 0, 1);
        Check.due("8: both get the glass room", () -> x.confine(0, true), 2);
        Check.due("8: confined", () -> x.inmate(0, 2), 1);
        Check.due("8: the glass room", () -> x.visit(1, 4), 1);
        Check.due("8: no places are taken", () -> x.visit(1, 6), 0);
        Check.due("8: anew", () -> x.confine(0, true), 0);
        Check.due("8: no more", () -> x.confine(0, false), 0);
        Check.due("8: not confined", () -> x.inmate(0, 2), 0);
        Check.due("8: visits keep their rooms", () -> x.visit(1, 4), 1);
        x.setOpen(1, false);
        Check.due("8: visits in the other room", () -> x.visit(1, 4), 0);
        x.wish(0, 1, 0, 0);
        Check.due("8: they are cancelled", () -> x.confine(0, true), 2);
        Check.due("8: kind of notice", () -> x.notice(5, true), 2);
        Check.due("8: cancelled", () -> x.account(4), 2);
        Check.due("8: the wish stays", () -> x.account(9), 1);
        Check.due("8: no room is possible", () -> x.refusal(0, 1, 0, 0), 6);
        Check.fails("8: no such inmate", () -> x.confine(1, true), IndexOutOfBoundsException.class);
        for (int odd : OUTSIDE) {
            Check.fails("8: inmate " + odd, () -> x.confine(odd, false), IndexOutOfBoundsException.class);
        }
    }

    private static void promise9() {
        VisitBooking x = new VisitBooking();
        for (int k = 0; k < 3; k++) {
            int what = k;
            Check.due("9: quota", () -> x.set(what, 9), what + 1);
            Check.due("9: previous quota", () -> x.set(what, 0), 9);
            Check.fails("9: quota 10", () -> x.set(what, 10), IllegalArgumentException.class);
            Check.fails("9: quota -1", () -> x.set(what, -1), IllegalArgumentException.class);
            Check.due("9: the quota stays", () -> x.set(what, 9), 0);
        }
        Check.due("9: places", () -> x.set(3, 12), 4);
        Check.due("9: previous places", () -> x.set(3, 0), 12);
        Check.fails("9: 13 places", () -> x.set(3, 13), IllegalArgumentException.class);
        Check.fails("9: -1 places", () -> x.set(3, -1), IllegalArgumentException.class);
        Check.due("9: the places stay", () -> x.slot(9, 1, true), 0);
        Check.fails("9: setting 4", () -> x.set(4, 0), IndexOutOfBoundsException.class);
        Check.fails("9: setting ahead of number", () -> x.set(4, 99), IndexOutOfBoundsException.class);
        for (int odd : OUTSIDE) {
            Check.fails("9: setting " + odd, () -> x.set(odd, 0), IndexOutOfBoundsException.class);
            Check.fails("9: value " + odd, () -> x.set(0, odd), IllegalArgumentException.class);
            Check.fails("9: value " + odd, () -> x.set(3, odd), IllegalArgumentException.class);
        }
        x.addInmate(0, 1);
        x.addVisitor(0);
        x.addRoom(0, 1, false);
        x.set(3, 1);
        x.book(0, 1, 0, 0);
        x.set(1, 0);
        x.set(3, 0);
        Check.due("9: visits stay", () -> x.account(2), 1);
        Check.due("9: less than 0 places are left", () -> x.slot(0, 0, true), -1);
        Check.due("9: the quota is 0", () -> x.refusal(0, 1, 9, 0), 3);
    }

    private static void promise10() {
        VisitBooking x = new VisitBooking();
        x.addInmate(3, 2);
        x.addInmate(0, 0);
        x.addVisitor(0);
        x.addVisitor(2);
        x.addRoom(0, 2, true);
        x.book(0, 1, 0, 0);
        x.book(0, 2, 0, 1);
        x.book(0, 3, 6, 0);
        x.book(0, 1, 7, 0);
        x.book(0, 1, 1, 0);
        Check.due("10: wing", () -> x.inmate(0, 0), 3);
        Check.due("10: level", () -> x.inmate(0, 1), 2);
        Check.due("10: confined", () -> x.inmate(0, 2), 0);
        Check.due("10: booked visits", () -> x.inmate(0, 3), 5);
        Check.due("10: visits that count", () -> x.inmate(0, 4), 3);
        Check.due("10: of the other one", () -> x.inmate(1, 3), 0);
        Check.due("10: of the other one", () -> x.inmate(1, 4), 0);
        x.pass(1);
        Check.due("10: held ones are not booked", () -> x.inmate(0, 3), 3);
        Check.due("10: held ones count", () -> x.inmate(0, 4), 3);
        x.cancel(4);
        Check.due("10: cancelled ones do not count", () -> x.inmate(0, 4), 2);
        x.pass(6);
        Check.due("10: the next week", () -> x.inmate(0, 4), 1);
        Check.fails("10: no such inmate", () -> x.inmate(2, 0), IndexOutOfBoundsException.class);
        Check.fails("10: no such inmate, nor number", () -> x.inmate(2, 5), IndexOutOfBoundsException.class);
        Check.fails("10: no such number", () -> x.inmate(0, 5), IllegalArgumentException.class);
        for (int odd : OUTSIDE) {
            Check.fails("10: inmate " + odd, () -> x.inmate(odd, 0), IndexOutOfBoundsException.class);
            Check.fails("10: what " + odd, () -> x.inmate(0, odd), IllegalArgumentException.class);
        }
    }

    private static void promise11() {
        VisitBooking x = new VisitBooking();
        x.addInmate(2, 2);
        x.addVisitor(0);
        x.addRoom(2, 3, false);
        x.addRoom(1, 2, true);
        x.book(0, 1, 0, 0);
        x.book(0, 1, 1, 0);
        int[] first = {2, 3, 0, 1, 2};
        int[] second = {1, 2, 1, 1, 0};
        for (int k = 0; k < 5; k++) {
            int what = k;
            Check.due("11: first room " + k, () -> x.room(0, what), first[what]);
            Check.due("11: second room " + k, () -> x.room(1, what), second[what]);
        }
        x.pass(1);
        Check.due("11: held ones do not count", () -> x.room(0, 4), 1);
        x.cancel(1);
        Check.due("11: cancelled ones do not count", () -> x.room(0, 4), 0);
        Check.fails("11: no such room", () -> x.room(2, 0), IndexOutOfBoundsException.class);
        Check.fails("11: no such room, nor number", () -> x.room(2, 5), IndexOutOfBoundsException.class);
        Check.fails("11: no such number", () -> x.room(0, 5), IllegalArgumentException.class);
        for (int odd : OUTSIDE) {
            Check.fails("11: room " + odd, () -> x.room(odd, 0), IndexOutOfBoundsException.class);
            Check.fails("11: what " + odd, () -> x.room(0, odd), IllegalArgumentException.class);
        }
    }

    private static void promise12() {
        VisitBooking x = new VisitBooking();
        x.addInmate(1, 0);
        Check.fails("12: no rooms", () -> x.ordered(0, 0), NoSuchElementException.class);
        x.addRoom(3, 1, true);
        x.addRoom(0, 2, true);
        x.addRoom(2, 1, false);
        x.addRoom(1, 3, false);
        x.addRoom(0, 1, false);
        x.addRoom(2, 2, true);
        int[] order = {3, 2, 4, 1, 5, 0};
        for (int k = 0; k < 6; k++) {
            int place = k;
            Check.due("12: place " + k, () -> x.ordered(0, place), order[place]);
        }
        x.setOpen(3, false);
        Check.due("12: closed ones count", () -> x.ordered(0, 0), 3);
        x.move(0, 3);
        int[] then = {0, 2, 5, 3, 4, 1};
        for (int k = 0; k < 6; k++) {
            int place = k;
            Check.due("12: place " + k, () -> x.ordered(0, place), then[place]);
        }
        Check.fails("12: place 6", () -> x.ordered(0, 6), NoSuchElementException.class);
        Check.fails("12: no such inmate", () -> x.ordered(1, 0), IndexOutOfBoundsException.class);
        Check.fails("12: no such inmate, nor place", () -> x.ordered(1, 6), IndexOutOfBoundsException.class);
        for (int odd : OUTSIDE) {
            Check.fails("12: inmate " + odd, () -> x.ordered(odd, 0), IndexOutOfBoundsException.class);
            Check.fails("12: place " + odd, () -> x.ordered(0, odd), NoSuchElementException.class);
        }
    }
}
