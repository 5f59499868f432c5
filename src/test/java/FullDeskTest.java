import java.util.NoSuchElementException;

/** A desk on which nothing more can be added: each call still answers, at the ends of all that it holds. */
public final class FullDeskTest {
    public static void main(String[] args) {
        VisitBooking x = full();
        counts(x);
        changes(x);
        text(x);
        strangeArguments(x);
        strangeArguments(new VisitBooking());
        Check.end();
    }

    /** 10 inmates, 12 visitors, 6 rooms, 60 visits, 10 bans, 6 wishes and 20 notices. */
    private static VisitBooking full() {
        VisitBooking x = new VisitBooking();
        for (int k = 0; k < 10; k++) {
            x.addInmate(k % 4, k % 3);
        }
        for (int k = 0; k < 12; k++) {
            x.addVisitor(2 - k % 3);
        }
        for (int k = 0; k < 6; k++) {
            x.addRoom(k % 4, 1 + k % 3, k % 2 == 0);
        }
        for (int k = 0; k < 4; k++) {
            x.set(k, 9);
        }
        for (int k = 0; k < 6; k++) {
            x.wish(9 - k, 1 << 11, 30, 55);
        }
        for (int k = 0; k < 60; k++) {
            x.book(k % 5, 1 << k % 5, k / 5, 0);
        }
        for (int k = 0; k < 20; k++) {
            x.move(k % 5, (k * 3 + 1) % 4);
        }
        for (int k = 0; k < 10; k++) {
            int other = k % 3 == 0 ? 11 : k % 3 == 1 ? 2 : 9;
            x.ban(k % 3, k % 9, other, 40, 55);
        }
        return x;
    }

    private static void counts(VisitBooking x) {
        int[] due = {0, 60, 60, 0, 0, 10, 12, 6, 10, 6, 20};
        for (int k = 0; k < due.length; k++) {
            int what = k;
            Check.due("account " + k, () -> x.account(what), due[what]);
        }
        Check.fails("an inmate", () -> x.addInmate(0, 0), IllegalStateException.class);
        Check.fails("a visitor", () -> x.addVisitor(0), IllegalStateException.class);
        Check.fails("a room", () -> x.addRoom(0, 1, true), IllegalStateException.class);
        Check.fails("a ban", () -> x.ban(0, 9, 11, 0, 55), IllegalStateException.class);
        Check.fails("a wish", () -> x.wish(9, 1 << 11, 0, 55), IllegalStateException.class);
        Check.due("a visit", () -> x.refusal(9, 1 << 11, 20, 3), 8);
        Check.fails("a visit", () -> x.book(9, 1 << 11, 20, 3), UnsupportedOperationException.class);
        Check.fails("a slot", () -> x.firstFree(9, 1 << 11), NoSuchElementException.class);
        Check.due("the last place", () -> x.ordered(9, 5) >= 0, true);
        Check.due("the last visit", () -> x.visit(59, 2), 11);
        Check.due("the last ban", () -> x.banned(9, 4), 55);
        Check.due("the last wish", () -> x.wished(5, 0), 4);
        Check.due("the last notice", () -> x.notice(19, true), 0);
        Check.due("all rooms but one are taken", () -> Integer.bitCount(x.slot(11, 0, false)), 5);
        Check.due("the last one booked", () -> x.next(59) / 5, 11);
        Check.due("the use", () -> x.use(1) > 0, true);
        Check.due("the distance", () -> x.meanDistance() >= 0, true);
    }

    private static void changes(VisitBooking x) {
        String before = Views.all(x);
        Check.due("cancel", () -> x.cancel(59), 0);
        Check.due("lift", () -> x.lift(9), 0);
        Check.due("lift", () -> x.lift(0), 0);
        Check.due("confine", () -> x.confine(0, true) > 0, true);
        int room = x.visit(55, 4);
        Check.due("close", () -> x.setOpen(room, false) > 0, true);
        Check.due("open", () -> x.setOpen(room, true), 0);
        Check.due("pass", () -> x.pass(10) > 0, true);
        Check.due("level", () -> x.setLevel(9, 1), 0);
        for (int k = 7; k >= 0; k--) {
            int left = k;
            Check.due("undo", () -> x.undo(), left);
        }
        Check.due("all is as before", () -> Views.all(x), before);
        Check.due("save", () -> x.save(), 60);
        Check.due("pass", () -> x.pass(20), 60);
        Check.due("pass", () -> x.pass(20), 0);
        Check.due("wishes stay", () -> x.account(9), 6);
        Check.due("pass", () -> x.pass(15), 0);
        Check.due("wishes stay until the last day", () -> x.account(9), 6);
        Check.due("restore", () -> x.restore(), 60);
        Check.due("all is as before", () -> Views.all(x), before);
        Check.due("a ban is lifted", () -> x.lift(0), 0);
        Check.due("a ban of a visitor", () -> x.ban(0, 4, 4, 0, 55), 12);
        Check.due("all of them are cancelled", () -> x.inmate(4, 3), 0);
        x.lift(0);
        Check.due("a ban of a pair", () -> x.ban(2, 0, 1, 0, 55), expectedClose(x));
        x.restore();
    }

    /** How many slots there are in which the inmates 0 and 1 are close to one another. */
    private static int expectedClose(VisitBooking x) {
        int close = 0;
        for (int one = 0; one < 60; one++) {
            for (int two = 0; two < 60; two++) {
                boolean isPair = x.visit(one, 0) == 0 && x.visit(two, 0) == 1 && x.visit(one, 2) == x.visit(two, 2);
                int gap = x.room(x.visit(one, 4), 0) - x.room(x.visit(two, 4), 0);
                if (isPair && x.visit(one, 5) == 0 && x.visit(two, 5) == 0 && gap > -2 && gap < 2) {
                    close++;
                }
            }
        }
        return close;
    }

    private static void text(VisitBooking x) {
        StringBuilder most = new StringBuilder("x0");
        for (int k = 1; k < 27; k++) {
            most.append(";x").append(k < 10 ? k : 9);
        }
        Check.due("80 characters", () -> most.length(), 80);
        Check.fails("the last ones fail", () -> Check.perform(x, most.toString()),
                UnsupportedOperationException.class);
        Check.due("none is cancelled", () -> x.account(2), 60);
        Check.due("20 commands", () -> Check.perform(x,
                "x0;x1;x2;x3;x4;x5;x6;x7;x8;x9;x10;x11;x12;x13;x14;x15;x16;x17;x18;x19"), 20);
        Check.due("20 are cancelled", () -> x.account(4), 20);
    }

    /** No call ever throws anything that the document does not name for it. */
    private static void strangeArguments(VisitBooking x) {
        int[] odd = {Integer.MIN_VALUE, Integer.MIN_VALUE + 1, -57, -1, 0, 1, 3, 4, 5, 6, 7, 8, 9, 10, 12, 13, 20, 21,
            31, 32, 55, 56, 60, 64, 99, 4095, 4096, 1 << 30, Integer.MAX_VALUE};
        for (int a : odd) {
            named("ordered", () -> x.ordered(0, a), "IndexOutOfBoundsException NoSuchElementException");
            named("next", () -> x.next(a), "NoSuchElementException");
            named("lift", () -> x.lift(a), "IndexOutOfBoundsException");
            named("cancel", () -> x.cancel(a), "IndexOutOfBoundsException IllegalStateException");
            named("use", () -> x.use(a), "IllegalArgumentException ArithmeticException");
            named("account", () -> x.account(a), "IllegalArgumentException");
            for (int b : odd) {
                String both = "IndexOutOfBoundsException IllegalArgumentException";
                named("inmate", () -> x.inmate(a, b), both);
                named("room", () -> x.room(a, b), both);
                named("visit", () -> x.visit(a, b), both);
                named("banned", () -> x.banned(a, b), both);
                named("wished", () -> x.wished(a, b), both);
                named("slot", () -> x.slot(a, b, true), both);
                named("ordered", () -> x.ordered(a, b), "IndexOutOfBoundsException NoSuchElementException");
                named("firstFree", () -> x.firstFree(a, b), both + " NoSuchElementException");
                named("refusal", () -> x.refusal(0, a, b, 1), both);
                named("refusal", () -> x.refusal(a, 1, 0, b), both);
                named("book", () -> x.book(a, b, 54, 3), both + " UnsupportedOperationException");
                named("ban", () -> x.ban(a, 0, b, 3, 4), both + " IllegalStateException");
                named("ban", () -> x.ban(1, 0, 1, a, b), both + " IllegalStateException");
                named("wish", () -> x.wish(0, 1, a, b), both + " IllegalStateException");
                named("move", () -> x.move(a, b), both);
                named("set", () -> x.set(a, b), both);
                named("setLevel", () -> x.setLevel(a, b), both);
            }
        }
    }

    private static void named(String what, Check.Call call, String allowed) {
        String answer = Check.outcome(call);
        String thrown = answer.substring(answer.lastIndexOf('.') + 1);
        Check.isTrue(what + " answers " + answer, !answer.startsWith("throws") || (" " + allowed + " ").contains(
                " " + thrown + " "));
    }
}
