/** Boundary cases of the promises 21 to 23: bans. */
final class BoundariesOfBans {
    private static final Class<IllegalArgumentException> RANGE = IllegalArgumentException.class;
    private static final Class<IllegalStateException> STATE = IllegalStateException.class;
    private static final Class<IndexOutOfBoundsException> INDEX = IndexOutOfBoundsException.class;
    private static final Whole.Maker TEN_BANS = BoundariesOfBans::tenBans;

    private BoundariesOfBans() {
    }

    static void all() {
        noSuchNumber();
        kindOfBan();
        sameInmates();
        days();
        tenthBan();
        firstNamedException();
        daysIncluded();
        bannedVisitors();
        bannedKinds();
        onlyBookedOnes();
        orderOfNotices();
        pairsByDistance();
        pairsByNumbers();
        pairsByDays();
        liftedInRange();
        numbersDecrease();
        liftedForWishes();
        bannedWrong();
        bannedNumbers();
    }

    private static VisitBooking tenBans() {
        VisitBooking x = Desks.wide();
        for (int k = 0; k < 10; k++) {
            x.ban(k % 3, k % 2, 2, 10 * (k % 3), 20 + k);
        }
        return x;
    }

    // ---- promise 21, what is refused

    private static void noSuchNumber() {
        Sentence.of(21, "Throws `IndexOutOfBoundsException` if there is no such inmate, visitor, kind of visitors or other");
        for (int kind = 0; kind <= 2; kind++) {
            int any = kind;
            Sentence.refused("inmate, kind " + kind, Desks.BUSY, Sentence.outside(0, Desks.INMATES - 1),
                    (x, inmate) -> x.ban(any, inmate, 0, 5, 6), INDEX);
        }
        Sentence.refused("visitor", Desks.BUSY, Sentence.outside(0, Desks.VISITORS - 1),
                (x, visitor) -> x.ban(0, 0, visitor, 5, 6), INDEX);
        Sentence.refused("kind of visitors", Desks.BUSY, Sentence.outside(0, 2), (x, k) -> x.ban(1, 0, k, 5, 6), INDEX);
        Sentence.refused("other inmate", Desks.BUSY, Sentence.outside(0, Desks.INMATES - 1),
                (x, other) -> x.ban(2, 0, other, 5, 6), INDEX);

        Sentence.of(21, "Makes a ban.");
        int[][] last = {{0, 4, 3}, {1, 4, 2}, {2, 1, 4}, {2, 4, 0}};
        for (int[] ban : last) {
            VisitBooking x = Desks.BUSY.make();
            String what = "kind " + ban[0] + ", inmate " + ban[1] + ", other " + ban[2];
            Sentence.due(what, () -> x.ban(ban[0], ban[1], ban[2], 50, 51), 0);
            Sentence.due(what + ", the last one", () -> x.banned(Desks.BANS, 2), ban[2]);
            Sentence.due(what + ", one more", () -> x.account(8), Desks.BANS + 1);
        }
    }

    private static void kindOfBan() {
        Sentence.of(21, "Throws `IllegalArgumentException` if the kind of the ban is out of range, both inmates are the same");
        Sentence.refused("kind", Desks.BUSY, Sentence.outside(0, 2), (x, kind) -> x.ban(kind, 0, 1, 5, 6), RANGE);

        Sentence.of(21, "If the kind of a ban is out of range, only the inmate is asked for ahead of that.");
        for (int kind : Sentence.outside(0, 2)) {
            Sentence.refused("no kind, no inmate", Desks.BUSY, x -> x.ban(kind, Desks.INMATES, 0, 5, 6), INDEX);
            Sentence.refused("no kind, inmate -1", Desks.BUSY, x -> x.ban(kind, -1, -1, 5, 6), INDEX);
            Sentence.refused("no kind, no other", Desks.BUSY, x -> x.ban(kind, 0, 99, 5, 6), RANGE);
            Sentence.refused("no kind, other -1", Desks.BUSY, x -> x.ban(kind, 0, -1, 5, 6), RANGE);
            Sentence.refused("no kind, 10 bans", TEN_BANS, x -> x.ban(kind, 0, 1, 5, 6), RANGE);
        }

        Sentence.of(21, "- `kind`: 0 for a ban of a visitor, 1 for a ban of a kind, 2 for a ban of a pair");
        for (int kind = 0; kind <= 2; kind++) {
            int any = kind;
            VisitBooking x = Desks.wide();
            x.book(1, 4, 5, 0);
            x.book(0, 1, 5, 0);
            // Number 1 is a visitor who does not come, the kind of that visitor, and the inmate in the next room.
            Sentence.due("kind " + kind, () -> x.ban(any, 0, 1, 5, 5), kind == 2 ? 1 : 0);
            Sentence.due("its kind", () -> x.banned(0, 0), kind);
        }
    }

    private static void sameInmates() {
        Sentence.of(21, "both inmates are the same");
        for (int inmate = 0; inmate < Desks.INMATES; inmate++) {
            int same = inmate;
            Sentence.refused("inmate " + same, Desks.BUSY, x -> x.ban(2, same, same, 5, 6), RANGE);
        }
        for (int number = 0; number <= 2; number++) {
            int same = number;
            VisitBooking x = Desks.wide();
            Sentence.due("visitor " + same, () -> x.ban(0, same, same, 5, 6), 0);
            Sentence.due("kind " + same, () -> x.ban(1, same, same, 5, 6), 0);
        }
    }

    private static void days() {
        Sentence.of(21, "or the days are not in ascending order from 0 to 55");
        int[][] wrong = {{-1, 5}, {5, 56}, {56, 56}, {55, 56}, {6, 5}, {1, 0}, {55, 0}, {-1, -1}, {-2, -1}, {0, -1},
            {Integer.MIN_VALUE, 5}, {5, Integer.MAX_VALUE}, {Integer.MIN_VALUE, Integer.MAX_VALUE}};
        int[][] right = {{0, 0}, {0, 55}, {55, 55}, {5, 5}, {54, 55}};
        for (int kind = 0; kind <= 2; kind++) {
            int any = kind;
            for (int[] day : wrong) {
                Sentence.refused("days " + day[0] + " to " + day[1], Desks.BUSY,
                        x -> x.ban(any, 0, 1, day[0], day[1]), RANGE);
            }
            for (int[] day : right) {
                VisitBooking x = Desks.wide();
                Sentence.due("days " + day[0] + " to " + day[1], () -> x.ban(any, 0, 1, day[0], day[1]), 0);
                Sentence.due("the first one", () -> x.banned(0, 3), day[0]);
                Sentence.due("the last one", () -> x.banned(0, 4), day[1]);
            }
        }
        Sentence.due("days that are over", () -> Desks.BUSY.make().ban(0, 0, 0, 0, 0), 0);
    }

    private static void tenthBan() {
        Sentence.of(21, "Throws `IllegalStateException` if there are 10 bans");
        for (int kind = 0; kind <= 2; kind++) {
            int any = kind;
            Sentence.refused("an eleventh of kind " + kind, TEN_BANS, x -> x.ban(any, 0, 1, 5, 6), STATE);
        }

        Sentence.of(21, "There are at most 10 bans, numbered from 0");
        VisitBooking x = Desks.wide();
        for (int k = 0; k < 10; k++) {
            int number = k;
            Sentence.due("ban " + k, () -> x.ban(number % 3, 0, 1, number, 55), 0);
            Sentence.due("its number", () -> x.banned(number, 3), number);
            Sentence.due("bans", () -> x.account(8), number + 1);
        }
        x.lift(3);
        Sentence.due("another tenth one", () -> x.ban(0, 0, 1, 33, 55) + x.banned(9, 3), 33);
    }

    private static void firstNamedException() {
        Sentence.of(21, "If several exceptions apply, the one named first is thrown.");
        Sentence.refused("no visitor, no days", Desks.BUSY, x -> x.ban(0, 0, Desks.VISITORS, 6, 5), INDEX);
        Sentence.refused("no kind of visitors, no days", Desks.BUSY, x -> x.ban(1, 0, 3, 6, 5), INDEX);
        Sentence.refused("no other inmate, no days", Desks.BUSY, x -> x.ban(2, 0, Desks.INMATES, 6, 5), INDEX);
        Sentence.refused("no inmate, twice", Desks.BUSY, x -> x.ban(2, Desks.INMATES, Desks.INMATES, 5, 6), INDEX);
        Sentence.refused("no inmate, 10 bans", TEN_BANS, x -> x.ban(0, 3, 0, 5, 6), INDEX);
        Sentence.refused("no visitor, 10 bans", TEN_BANS, x -> x.ban(0, 0, 4, 5, 6), INDEX);
        Sentence.refused("same inmates, 10 bans", TEN_BANS, x -> x.ban(2, 0, 0, 5, 6), RANGE);
        Sentence.refused("no days, 10 bans", TEN_BANS, x -> x.ban(0, 0, 0, 6, 5), RANGE);
    }

    // ---- promise 21, what is cancelled

    private static void daysIncluded() {
        Sentence.of(21, "Each has a first and a last day, both included.");
        for (int kind = 0; kind <= 1; kind++) {
            VisitBooking x = Desks.withRoom();
            for (int day = 4; day <= 9; day++) {
                x.book(0, 4, day, 3);
            }
            int any = kind;
            Sentence.due("kind " + kind + ", from day 5 to day 8", () -> x.ban(any, 0, 2, 5, 8), 4);
            int[] status = {0, 2, 2, 2, 2, 0};
            for (int k = 0; k < 6; k++) {
                int visit = k;
                Sentence.due("day " + (k + 4), () -> x.visit(visit, 5), status[visit]);
            }
            Sentence.due("one day", () -> x.ban(any, 0, 2, 9, 9), 1);
            Sentence.due("the first visit is left", () -> x.next(0), 0);
        }
        VisitBooking y = Desks.withRoom();
        y.book(0, 4, 0, 0);
        y.book(0, 4, 55, 3);
        Sentence.due("all days", () -> y.ban(0, 0, 2, 0, 55), 2);
    }

    private static void bannedVisitors() {
        Sentence.of(21, "When a ban of a visitor or of a kind is made, all booked visits that break it are cancelled.");
        VisitBooking x = Desks.wide();
        x.book(0, 8, 5, 0);
        x.book(0, 12, 5, 1);
        x.book(0, 4, 5, 2);
        x.book(1, 8, 5, 2);
        x.book(0, 14, 5, 3);
        Sentence.due("visitor 3 of inmate 0", () -> x.ban(0, 0, 3, 5, 5), 3);
        int[] status = {2, 2, 0, 0, 2};
        for (int k = 0; k < 5; k++) {
            int visit = k;
            Sentence.due("visit " + k, () -> x.visit(visit, 5), status[visit]);
        }

        Sentence.of(21, "1 it was cancelled by a ban");
        Sentence.due("three notices", () -> x.account(10), 3);
        for (int k = 0; k < 3; k++) {
            int place = k;
            Sentence.due("the kind of notice " + k, () -> x.notice(place, true), 1);
        }
    }

    private static void bannedKinds() {
        Sentence.of(21, "a ban of a kind tells an inmate and a kind of visitors");
        for (int kind = 0; kind <= 2; kind++) {
            VisitBooking x = Desks.withRoom();
            x.book(0, 1, 5, 0);
            x.book(0, 2, 5, 1);
            x.book(0, 4, 5, 2);
            x.book(0, 7, 5, 3);
            int any = kind;
            Sentence.due("kind " + kind, () -> x.ban(1, 0, any, 5, 5), 2);
            for (int visit = 0; visit < 4; visit++) {
                int v = visit;
                Sentence.due("visit " + visit, () -> x.visit(v, 5), v == any || v == 3 ? 2 : 0);
            }
        }

        Sentence.of(21, "A ban of a visitor tells an inmate and a visitor");
        VisitBooking x = Desks.wide();
        x.book(1, 1, 5, 0);
        Sentence.due("of another inmate", () -> x.ban(0, 0, 0, 5, 5) + x.account(4), 0);
    }

    private static void onlyBookedOnes() {
        Sentence.of(21, "Returns the number of visits that are cancelled by that.");
        VisitBooking x = Desks.withRoom();
        x.book(0, 1, 0, 0);
        x.book(0, 1, 5, 0);
        x.book(0, 1, 5, 1);
        x.cancel(1);
        x.pass(1);
        x.wish(0, 4, 5, 5);
        Sentence.due("neither a held one nor a cancelled one", () -> x.ban(0, 0, 0, 0, 55), 1);
        Sentence.due("it is held", () -> x.visit(0, 5), 1);
        Sentence.due("one notice", () -> x.account(10), 1);
        Sentence.due("no wish is looked at", () -> x.account(9), 1);
        VisitBooking y = Desks.withRoom();
        Desks.bookLawyer(y, 60, 0);
        Sentence.due("60", () -> y.ban(1, 0, 2, 0, 55), 60);
        Sentence.due("notices", () -> y.account(10), 20);
    }

    private static void orderOfNotices() {
        Sentence.of(21, "Notices are in the order in which they came");
        VisitBooking x = Desks.wide();
        x.book(0, 1, 6, 0);
        x.book(1, 2, 6, 0);
        x.book(1, 2, 5, 3);
        x.book(0, 1, 5, 3);
        x.book(0, 1, 5, 1);
        x.book(1, 2, 5, 1);
        Sentence.due("a pair", () -> x.ban(2, 0, 1, 5, 6), 3);
        int[] order = {5, 3, 1};
        for (int k = 0; k < 3; k++) {
            int place = k;
            Sentence.due("notice " + k, () -> x.notice(place, false), order[place]);
        }
    }

    private static void pairsByDistance() {
        Sentence.of(21, "that of two rooms is likewise that of their wings.");
        VisitBooking far = pair(3, 0);
        far.move(0, 1);
        far.move(1, 1);
        Sentence.due("whatever the wings of the inmates are", () -> far.ban(2, 0, 1, 5, 5), 0);
        VisitBooking near = pair(1, 2);
        near.undo();
        near.move(1, 3);
        near.book(1, 2, 5, 1);
        Sentence.due("rooms in the wings 1 and 2", () -> near.ban(2, 0, 1, 5, 5), 1);

        Sentence.of(21, "in which both inmates have booked visits in rooms whose distance is less than 2");
        for (int one = 0; one < 4; one++) {
            for (int two = 0; two < 4; two++) {
                VisitBooking x = pair(one, two);
                int due = Math.abs(one - two) < 2 ? 1 : 0;
                String what = "wings " + one + " and " + two;
                Sentence.due(what, () -> x.ban(2, 0, 1, 5, 5), due);
                Sentence.due(what + ", the one with the greater number", () -> x.visit(1, 5), 2 * due);
                Sentence.due(what + ", the other one", () -> x.visit(0, 5), 0);
            }
        }
        for (int wing = 0; wing < 4; wing++) {
            VisitBooking turned = new VisitBooking();
            turned.addInmate(wing, 2);
            turned.addInmate(1, 2);
            turned.addVisitor(0);
            turned.addVisitor(0);
            turned.addRoom(1, 1, true);
            turned.book(1, 2, 5, 1);
            turned.addRoom(0, 1, true);
            turned.addRoom(0, 1, true);
            turned.addRoom(wing, 1, true);
            turned.setOpen(1, false);
            turned.setOpen(2, false);
            turned.book(0, 1, 5, 1);
            int due = wing < 3 ? 1 : 0;
            Sentence.due("rooms 0 and 3, wings 1 and " + wing, () -> turned.ban(2, 0, 1, 5, 5), due);
        }
        VisitBooking alone = pair(1, 1);
        alone.cancel(0);
        Sentence.due("one of them was cancelled", () -> alone.ban(2, 0, 1, 5, 5), 0);
        VisitBooking held = pair(1, 1);
        held.pass(6);
        Sentence.due("both are held", () -> held.ban(2, 0, 1, 0, 55), 0);
        VisitBooking third = pair(1, 1);
        third.addInmate(0, 0);
        Sentence.due("a third inmate", () -> third.ban(2, 0, 2, 0, 55), 0);
    }

    /** The inmates 0 and 1 have visits on day 5 in slot 1, in rooms of these wings. */
    private static VisitBooking pair(int one, int two) {
        VisitBooking x = new VisitBooking();
        x.addInmate(one, 2);
        x.addInmate(two, 2);
        x.addVisitor(0);
        x.addVisitor(0);
        x.addRoom(one, 1, true);
        x.book(0, 1, 5, 1);
        x.addRoom(two, 1, true);
        x.book(1, 2, 5, 1);
        return x;
    }

    private static void pairsByNumbers() {
        Sentence.of(21, "the visit with the greater number is cancelled.");
        for (int named = 0; named <= 1; named++) {
            VisitBooking x = Desks.wide();
            x.book(0, 1, 5, 0);
            x.book(1, 2, 5, 0);
            x.book(1, 2, 5, 1);
            x.book(0, 1, 5, 1);
            int first = named;
            Sentence.due("inmate " + first + " is named first", () -> x.ban(2, first, 1 - first, 5, 5), 2);
            int[] status = {0, 2, 0, 2};
            for (int k = 0; k < 4; k++) {
                int visit = k;
                Sentence.due("visit " + k, () -> x.visit(visit, 5), status[visit]);
            }
        }

        Sentence.of(21, "a ban of a pair tells two different inmates");
        VisitBooking x = Desks.wide();
        x.book(0, 1, 5, 0);
        x.book(1, 2, 5, 0);
        x.book(2, 4, 5, 0);
        Sentence.due("the first and the third one are two wings apart", () -> x.ban(2, 2, 0, 5, 5), 0);
        Sentence.due("the second and the third one", () -> x.ban(2, 2, 1, 5, 5), 1);
        Sentence.due("the first one stays", () -> x.visit(0, 5), 0);
        Sentence.due("the second one stays", () -> x.visit(1, 5), 0);
    }

    private static void pairsByDays() {
        Sentence.of(21, "for each slot of its days, in their order");
        VisitBooking x = Desks.wide();
        for (int day = 4; day <= 7; day++) {
            for (int slot = 0; slot <= 3; slot += 3) {
                x.book(0, 4, day, slot);
                x.book(1, 8, day, slot);
            }
        }
        Sentence.due("from day 5 to day 6", () -> x.ban(2, 0, 1, 5, 6), 4);
        for (int k = 0; k < 16; k++) {
            int visit = k;
            Sentence.due("visit " + k, () -> x.visit(visit, 5), k >= 4 && k < 12 && k % 2 == 1 ? 2 : 0);
        }
        Sentence.due("from day 7 to day 55", () -> x.ban(2, 0, 1, 7, 55), 2);
        Sentence.due("from day 0 to day 4", () -> x.ban(2, 0, 1, 0, 4), 2);
        Sentence.due("there are none left", () -> x.ban(2, 0, 1, 0, 55), 0);
        for (int of : new int[] {30, 59}) {
            VisitBooking y = Desks.wide();
            for (int k = 0; k < 60; k++) {
                y.book(k < of ? 0 : 1, k < of ? 4 : 8, k % of / 4, k % of % 4);
            }
            Sentence.due("60 visits, of which inmate 0 has " + of, () -> y.ban(2, 0, 1, 0, 55), 60 - of);
            Sentence.due("those of inmate 1 are cancelled", () -> y.inmate(1, 3), 0);
            Sentence.due("those of inmate 0 stay", () -> y.inmate(0, 3), of);
        }
    }

    // ---- promise 22

    private static void liftedInRange() {
        Sentence.of(22, "Throws `IndexOutOfBoundsException` if there is no such ban");
        Sentence.refused("ban", Desks.BUSY, Sentence.outside(0, Desks.BANS - 1), (x, ban) -> x.lift(ban), INDEX);
        Sentence.refused("ban of ten", TEN_BANS, Sentence.outside(0, 9), (x, ban) -> x.lift(ban), INDEX);
        Sentence.refused("no bans", Desks.EMPTY, x -> x.lift(0), INDEX);

        Sentence.of(22, "Lifts a ban.");
        VisitBooking x = Desks.withRoom();
        x.ban(0, 0, 0, 5, 5);
        x.book(0, 2, 5, 0);
        x.ban(0, 0, 1, 5, 5);
        Sentence.due("the first one", () -> x.lift(0), 0);
        Sentence.due("it holds no more", () -> x.refusal(0, 1, 5, 0), 0);
        Sentence.due("the other one holds", () -> x.refusal(0, 2, 5, 0), 2);
        Sentence.due("the last one", () -> x.lift(0), 0);
        Sentence.due("it holds no more", () -> x.refusal(0, 2, 5, 0), 0);
        Sentence.due("there are none", () -> x.account(8), 0);
        Sentence.due("what was cancelled stays so", () -> x.visit(0, 5), 2);
        Sentence.fails("no more", () -> x.lift(0), INDEX);
    }

    private static void numbersDecrease() {
        Sentence.of(22, "when one is lifted, the numbers of later ones decrease by 1.");
        for (int lifted : new int[] {0, 1, 8, 9}) {
            VisitBooking x = tenBans();
            Sentence.due("ban " + lifted, () -> x.lift(lifted), 0);
            Sentence.due("nine are left", () -> x.account(8), 9);
            for (int k = 0; k < 9; k++) {
                int ban = k;
                int was = k < lifted ? k : k + 1;
                int[] row = {was % 3, was % 2, 2, 10 * (was % 3), 20 + was};
                for (int what = 0; what < 5; what++) {
                    int w = what;
                    Sentence.due("number " + w + " of ban " + k, () -> x.banned(ban, w), row[w]);
                }
            }
            Sentence.fails("no ban 9", () -> x.banned(9, 0), INDEX);
        }
    }

    private static void liftedForWishes() {
        Sentence.of(22, "Returns the number of visits that are booked for wishes by that.");
        for (int wishes = 0; wishes <= 6; wishes++) {
            VisitBooking x = Desks.withRoom();
            x.ban(1, 0, 2, 0, 55);
            x.ban(1, 0, 2, 10, 10);
            for (int k = 0; k < wishes; k++) {
                x.wish(0, 4, 7 + k, 7 + k);
            }
            int many = wishes;
            Sentence.due("of " + wishes + " wishes", () -> x.lift(0), many > 3 ? many - 1 : many);
            Sentence.due("the one on day 10 waits", () -> x.account(9), many > 3 ? 1 : 0);
            Sentence.due("it is booked, too", () -> x.lift(0), many > 3 ? 1 : 0);
            Sentence.due("all are booked", () -> x.account(1), many);
        }

        Sentence.of(22, "or a ban is lifted, the wishes are looked at in their order");
        VisitBooking y = Desks.withRoom();
        y.ban(0, 0, 2, 0, 0);
        y.wish(0, 1, 5, 5);
        y.wish(0, 2, 5, 5);
        Sentence.due("whatever ban it was", () -> y.lift(0), 2);
        Sentence.due("the first one first", () -> y.visit(0, 1), 1);
        Sentence.due("the second one then", () -> y.visit(1, 3), 1);
        Sentence.due("of kind 3", () -> y.notice(1, true), 3);
    }

    // ---- promise 23

    private static void bannedWrong() {
        Sentence.of(23, "Throws `IndexOutOfBoundsException` if there is no such ban");
        Sentence.refused("ban", Desks.BUSY, Sentence.outside(0, Desks.BANS - 1), (x, ban) -> x.banned(ban, 0), INDEX);
        Sentence.refused("no bans", Desks.EMPTY, x -> x.banned(0, 0), INDEX);

        Sentence.of(23, "Throws `IllegalArgumentException` if what is out of range");
        Sentence.refused("what", Desks.BUSY, Sentence.outside(0, 4), (x, what) -> x.banned(0, what), RANGE);

        Sentence.of(23, "If several exceptions apply, the one named first is thrown.");
        Sentence.refused("no ban, no number", Desks.BUSY, x -> x.banned(Desks.BANS, 5), INDEX);
    }

    private static void bannedNumbers() {
        Sentence.of(23, "- `what`: 0 the kind; 1 the inmate; 2 the visitor, the kind of visitors, or the other inmate");
        int[][] numbers = {{0, 0, 3, 10, 12}, {2, 0, 1, 20, 21}};
        for (int ban = 0; ban < Desks.BANS; ban++) {
            for (int what = 0; what <= 4; what++) {
                int b = ban;
                int w = what;
                Sentence.reads("number " + what + " of " + ban, Desks.BUSY, x -> x.banned(b, w), numbers[b][w]);
            }
        }

        Sentence.of(23, "Returns a number of a ban.");
        VisitBooking x = tenBans();
        Sentence.due("the first one of ten", () -> x.banned(0, 4), 20);
        Sentence.due("the last one of ten", () -> x.banned(9, 4), 29);

        Sentence.of(23, "Returns the number.");
        x.pass(20);
        x.pass(20);
        Sentence.due("a ban stays when its days are over", () -> x.account(8), 10);
        Sentence.due("with its days", () -> x.banned(0, 4), 20);
    }
}
