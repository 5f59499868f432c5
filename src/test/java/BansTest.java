/** Promises 21 to 23: bans. */
public final class BansTest {
    private static final int[] OUTSIDE = {-1, Integer.MIN_VALUE, Integer.MAX_VALUE};

    public static void main(String[] args) {
        promise21Visitor();
        promise21Kind();
        promise21Pair();
        promise21Distances();
        promise21Wrong();
        promise22();
        promise23();
        Check.end();
    }

    /** Three inmates of level 2 in wing 0, visitors 0 family, 1 friend, 2 lawyer, rooms in the wings 0, 1 and 2. */
    private static VisitBooking desk() {
        VisitBooking x = new VisitBooking();
        for (int k = 0; k < 3; k++) {
            x.addInmate(0, 2);
            x.addVisitor(k);
            x.addRoom(k, 3, true);
        }
        return x;
    }

    private static void promise21Visitor() {
        VisitBooking x = desk();
        x.book(0, 1, 5, 1);
        x.book(0, 3, 4, 0);
        x.book(0, 2, 4, 1);
        x.book(1, 1, 5, 0);
        x.book(0, 5, 9, 0);
        x.book(0, 1, 10, 0);
        x.wish(1, 2, 4, 4);
        Check.due("21: a ban of a visitor", () -> x.ban(0, 0, 0, 4, 9), 3);
        int[] status = {2, 2, 0, 0, 2, 0};
        for (int k = 0; k < 6; k++) {
            int visit = k;
            Check.due("21: visit " + k, () -> x.visit(visit, 5), status[visit]);
        }
        Check.due("21: notices", () -> x.account(10), 3);
        Check.due("21: kind of notice", () -> x.notice(2, true), 1);
        Check.due("21: the first notice", () -> x.notice(0, false), 0);
        Check.due("21: the second notice", () -> x.notice(1, false), 1);
        Check.due("21: the third notice", () -> x.notice(2, false), 4);
        Check.due("21: no wishes are looked at", () -> x.account(9), 1);
        Check.due("21: a ban without visits", () -> x.ban(0, 0, 0, 4, 9), 0);
        Check.due("21: two bans", () -> x.account(8), 2);
        x.pass(11);
        Check.due("21: held ones stay", () -> x.ban(0, 1, 0, 0, 55), 0);
        Check.due("21: held", () -> x.visit(3, 5), 1);
    }

    private static void promise21Kind() {
        VisitBooking x = desk();
        x.addVisitor(1);
        x.book(0, 9, 3, 0);
        x.book(0, 1, 3, 1);
        x.book(0, 2, 3, 2);
        x.book(1, 2, 3, 0);
        x.book(0, 4, 3, 3);
        Check.due("21: a ban of a kind", () -> x.ban(1, 0, 1, 3, 3), 2);
        Check.due("21: one of that kind", () -> x.visit(0, 5), 2);
        Check.due("21: another kind", () -> x.visit(1, 5), 0);
        Check.due("21: one of that kind", () -> x.visit(2, 5), 2);
        Check.due("21: another inmate", () -> x.visit(3, 5), 0);
        Check.due("21: a ban of lawyers", () -> x.ban(1, 0, 2, 0, 55), 1);
        Check.due("21: who are added later, too", () -> x.refusal(0, 1 << x.addVisitor(1), 3, 0), 2);
    }

    private static void promise21Pair() {
        VisitBooking x = desk();
        x.addVisitor(0);
        x.book(1, 2, 6, 0);
        x.book(0, 1, 6, 0);
        x.book(0, 1, 5, 3);
        x.book(1, 2, 5, 3);
        x.book(0, 1, 8, 1);
        x.book(1, 2, 8, 1);
        x.book(2, 4, 5, 3);
        Check.due("21: a ban of a pair", () -> x.ban(2, 1, 0, 5, 6), 2);
        Check.due("21: the slots in their order", () -> x.notice(0, false), 3);
        Check.due("21: the slots in their order", () -> x.notice(1, false), 1);
        Check.due("21: kind of notice", () -> x.notice(1, true), 1);
        Check.due("21: the lower number stays", () -> x.visit(0, 5), 0);
        Check.due("21: the lower number stays", () -> x.visit(2, 5), 0);
        Check.due("21: other days", () -> x.visit(5, 5), 0);
        Check.due("21: a third inmate", () -> x.visit(6, 5), 0);
        x.setOpen(0, false);
        x.setOpen(0, true);
        x.setOpen(1, false);
        x.move(1, 0);
        x.move(0, 2);
        Check.due("21: rooms at a distance of 2", () -> x.slot(8, 1, false), 5);
        Check.due("21: far apart", () -> x.ban(2, 0, 1, 8, 8), 0);
    }

    /** Two rooms in each two wings, whoever of the pair came first, and whoever the ban names first. */
    private static void promise21Distances() {
        for (int k = 0; k < 64; k++) {
            int one = k % 4;
            int two = k / 4 % 4;
            int first = k / 16 % 2;
            int named = k / 32;
            VisitBooking x = new VisitBooking();
            x.addInmate(one, 2);
            x.addInmate(two, 2);
            x.addVisitor(0);
            x.addVisitor(0);
            x.addRoom(one, 1, true);
            x.addRoom(two, 1, true);
            x.book(first, 1, 0, 0);
            x.book(1 - first, 2, 0, 0);
            int distance = one > two ? one - two : two - one;
            String what = "21: wings " + one + " and " + two + ", ";
            Check.due(what + "cancelled", () -> x.ban(2, named, 1 - named, 0, 0), distance < 2 ? 1 : 0);
            Check.due(what + "the first one stays", () -> x.visit(0, 5), 0);
            Check.due(what + "the second one", () -> x.visit(1, 5), distance < 2 ? 2 : 0);
            Check.due(what + "refused", () -> x.refusal(1 - first, 2, 0, 0), distance < 2 ? 6 : 4);
            x.cancel(0);
            Check.due(what + "free then", () -> x.refusal(1 - first, 2, 0, 0), distance < 2 ? 0 : 4);
        }
    }

    private static void wrong(VisitBooking x, int kind, int inmate, int other, int first, int last, boolean isIndex) {
        String what = "21: ban(" + kind + ", " + inmate + ", " + other + ", " + first + ", " + last + ")";
        Check.fails(what, () -> x.ban(kind, inmate, other, first, last),
                isIndex ? IndexOutOfBoundsException.class : IllegalArgumentException.class);
    }

    private static void promise21Wrong() {
        VisitBooking x = desk();
        x.addVisitor(0);
        for (int kind = -1; kind < 4; kind++) {
            wrong(x, kind, 3, 0, 0, 0, true);
            wrong(x, kind, 3, 9, 56, 0, true);
            for (int odd : OUTSIDE) {
                wrong(x, kind, odd, 0, 0, 0, true);
            }
        }
        wrong(x, 3, 0, 9, 0, 0, false);
        wrong(x, -1, 0, -1, 0, 0, false);
        wrong(x, 0, 0, 4, 5, 4, true);
        wrong(x, 1, 0, 3, 5, 4, true);
        wrong(x, 2, 0, 3, 5, 4, true);
        for (int odd : OUTSIDE) {
            wrong(x, odd, 0, 0, 0, 0, false);
            wrong(x, 0, 0, odd, 0, 0, true);
            wrong(x, 1, 0, odd, 0, 0, true);
            wrong(x, 2, 0, odd, 0, 0, true);
            wrong(x, 0, 0, 0, odd, 55, false);
            wrong(x, 0, 0, 0, 0, odd, false);
        }
        wrong(x, 2, 1, 1, 0, 0, false);
        wrong(x, 0, 0, 0, 5, 4, false);
        wrong(x, 0, 0, 0, 0, 56, false);
        wrong(x, 0, 0, 0, 56, 56, false);
        Check.due("21: no bans", () -> x.account(8), 0);
        Check.due("21: visitor 3", () -> x.ban(0, 0, 3, 0, 55), 0);
        Check.due("21: the same numbers", () -> x.ban(0, 1, 1, 55, 55), 0);
        for (int k = 2; k < 10; k++) {
            int day = k;
            Check.due("21: ban " + k, () -> x.ban(day % 3, 0, 2, day, day), 0);
        }
        Check.fails("21: an eleventh", () -> x.ban(0, 0, 0, 0, 0), IllegalStateException.class);
        wrong(x, 0, 0, 9, 0, 0, true);
        wrong(x, 0, 0, 0, 5, 4, false);
        Check.due("21: 10 bans", () -> x.account(8), 10);
        Check.due("21: no change by what failed", () -> x.undo(), 7);
        Check.due("21: taken back", () -> x.account(8), 9);
    }

    private static void promise22() {
        VisitBooking x = desk();
        x.ban(0, 0, 0, 3, 4);
        x.ban(1, 0, 1, 2, 9);
        x.ban(2, 0, 1, 1, 1);
        x.wish(0, 2, 3, 4);
        x.wish(0, 1, 3, 4);
        x.wish(1, 2, 0, 0);
        Check.due("22: one wish by the ban, and one that waits", () -> x.lift(0), 2);
        Check.due("22: the first wish stays", () -> x.wished(0, 1), 2);
        Check.due("22: bans", () -> x.account(8), 2);
        Check.due("22: later ones have lower numbers", () -> x.banned(0, 4), 9);
        Check.due("22: later ones have lower numbers", () -> x.banned(1, 0), 2);
        Check.due("22: the visit", () -> x.visit(0, 2), 3);
        Check.due("22: a notice", () -> x.notice(0, true), 3);
        Check.due("22: the last one", () -> x.lift(1), 0);
        Check.due("22: the other one", () -> x.lift(0), 1);
        Check.due("22: the wish", () -> x.visit(2, 3), 1);
        Check.fails("22: no such ban", () -> x.lift(0), IndexOutOfBoundsException.class);
        for (int odd : OUTSIDE) {
            Check.fails("22: ban " + odd, () -> x.lift(odd), IndexOutOfBoundsException.class);
        }
    }

    private static void promise23() {
        VisitBooking x = desk();
        x.ban(0, 2, 1, 0, 55);
        x.ban(1, 1, 2, 3, 3);
        x.ban(2, 1, 0, 7, 9);
        int[][] numbers = {{0, 2, 1, 0, 55}, {1, 1, 2, 3, 3}, {2, 1, 0, 7, 9}};
        for (int b = 0; b < 3; b++) {
            for (int k = 0; k < 5; k++) {
                int ban = b;
                int what = k;
                Check.due("23: number " + k + " of " + b, () -> x.banned(ban, what), numbers[ban][what]);
            }
        }
        Check.fails("23: no such ban", () -> x.banned(3, 0), IndexOutOfBoundsException.class);
        Check.fails("23: no such ban, nor number", () -> x.banned(3, 5), IndexOutOfBoundsException.class);
        Check.fails("23: no such number", () -> x.banned(0, 5), IllegalArgumentException.class);
        for (int odd : OUTSIDE) {
            Check.fails("23: ban " + odd, () -> x.banned(odd, 0), IndexOutOfBoundsException.class);
            Check.fails("23: what " + odd, () -> x.banned(0, odd), IllegalArgumentException.class);
        }
    }
}
