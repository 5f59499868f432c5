/** Boundary cases of the promises 1 to 3, 6, 9 and 10: a new object, inmates, visitors, settings. */
final class BoundariesOfInmates {
    private static final Class<IllegalArgumentException> RANGE = IllegalArgumentException.class;
    private static final Class<IllegalStateException> STATE = IllegalStateException.class;
    private static final Class<IndexOutOfBoundsException> INDEX = IndexOutOfBoundsException.class;
    private static final Whole.Maker TEN_INMATES = BoundariesOfInmates::tenInmates;
    private static final Whole.Maker TWELVE_VISITORS = BoundariesOfInmates::twelveVisitors;

    private BoundariesOfInmates() {
    }

    static void all() {
        newDesk();
        newSettings();
        inmatesInRange();
        tenthInmate();
        inmatesNotConfined();
        visitorsInRange();
        twelfthVisitor();
        kindsOfVisitors();
        levels();
        levelsAndVisits();
        settingsInRange();
        settingsAndVisits();
        inmateNumbers();
        inmateWeeks();
        inmateWrong();
    }

    private static VisitBooking tenInmates() {
        VisitBooking x = new VisitBooking();
        for (int k = 0; k < 10; k++) {
            x.addInmate(k % 4, k % 3);
        }
        return x;
    }

    private static VisitBooking twelveVisitors() {
        VisitBooking x = new VisitBooking();
        for (int k = 0; k < 12; k++) {
            x.addVisitor(k % 3);
        }
        return x;
    }

    private static void newDesk() {
        Sentence.of(1, "Creates a desk without inmates, visitors and rooms.");
        for (int what = 0; what <= 12; what++) {
            int account = what;
            Sentence.reads("account " + what, Desks.EMPTY, x -> x.account(account), 0);
        }
        Sentence.refused("inmate 0", Desks.EMPTY, x -> x.inmate(0, 0), INDEX);
        Sentence.refused("room 0", Desks.EMPTY, x -> x.room(0, 0), INDEX);
        Sentence.refused("visit 0", Desks.EMPTY, x -> x.visit(0, 0), INDEX);
        VisitBooking x = new VisitBooking();
        x.addInmate(0, 0);
        Sentence.fails("visitor 0", () -> x.refusal(0, 1, 0, 0), RANGE);
        x.addVisitor(0);
        Sentence.due("room 0", () -> x.refusal(0, 1, 0, 0), 6);
        Sentence.due("another desk", () -> new VisitBooking().account(5), 0);

        Sentence.of(1, "The days are numbered from 0 to 55, the present day is 0 at first.");
        Sentence.due("the present day", () -> new VisitBooking().account(0), 0);
    }

    private static void newSettings() {
        Sentence.of(1, "as many as the setting says, 0 to 12, at first 4");
        Sentence.due("the setting", () -> new VisitBooking().set(3, 0), 4);
        Sentence.due("in the first slot", () -> new VisitBooking().slot(0, 0, true), 4);
        Sentence.due("in the last slot", () -> new VisitBooking().slot(55, 3, true), 4);

        Sentence.of(1, "for the levels 0, 1 and 2 it is at first 1, 2 and 3");
        for (int level = 0; level < 3; level++) {
            int what = level;
            Sentence.due("the setting of level " + level, () -> new VisitBooking().set(what, 0), what + 1);
            VisitBooking x = new VisitBooking();
            x.addInmate(0, level);
            x.addVisitor(0);
            x.addRoom(0, 1, true);
            for (int visit = 0; visit <= level; visit++) {
                int slot = visit;
                Sentence.due("level " + level, () -> x.book(0, 1, 0, slot), slot);
            }
            Sentence.due("level " + level + ", one more", () -> x.refusal(0, 1, 0, 3), 3);
        }
    }

    private static void inmatesInRange() {
        Sentence.of(2, "Throws `IllegalArgumentException` if the wing or the level is out of range");
        for (Whole.Maker maker : new Whole.Maker[] {Desks.EMPTY, Desks.BUSY}) {
            Sentence.refused("wing", maker, Sentence.outside(0, 3), (x, wing) -> x.addInmate(wing, 0), RANGE);
            Sentence.refused("level", maker, Sentence.outside(0, 2), (x, level) -> x.addInmate(0, level), RANGE);
        }

        Sentence.of(2, "An inmate is in a wing, 0 to 3, has a level, 0 to 2, and can be confined to glass.");
        for (int wing = 0; wing <= 3; wing++) {
            for (int level = 0; level <= 2; level++) {
                VisitBooking x = new VisitBooking();
                int inWing = wing;
                int ofLevel = level;
                String what = "wing " + wing + ", level " + level;
                Sentence.due(what, () -> x.addInmate(inWing, ofLevel), 0);
                Sentence.due(what + ", wing", () -> x.inmate(0, 0), wing);
                Sentence.due(what + ", level", () -> x.inmate(0, 1), level);
                x.confine(0, true);
                Sentence.due(what + ", confined", () -> x.inmate(0, 2), 1);
            }
        }
    }

    private static void tenthInmate() {
        Sentence.of(2, "Throws `IllegalStateException` if there are 10 inmates");
        Sentence.refused("an eleventh", TEN_INMATES, x -> x.addInmate(0, 0), STATE);
        Sentence.refused("an eleventh", TEN_INMATES, x -> x.addInmate(3, 2), STATE);
        Sentence.due("the tenth again", () -> {
            VisitBooking x = tenInmates();
            x.undo();
            return x.addInmate(0, 0);
        }, 9);

        Sentence.of(2, "If several exceptions apply, the one named first is thrown.");
        Sentence.refused("no such wing", TEN_INMATES, x -> x.addInmate(4, 0), RANGE);
        Sentence.refused("no such level", TEN_INMATES, x -> x.addInmate(0, 3), RANGE);

        Sentence.of(2, "Returns the number of the inmate.");
        VisitBooking x = new VisitBooking();
        for (int k = 0; k < 10; k++) {
            int number = k;
            Sentence.due("inmate " + k, () -> x.addInmate(number % 4, number % 3), number);
        }

        Sentence.of(2, "There are at most 10 inmates and at most 12 visitors, each numbered from 0 in the order");
        Sentence.due("the last inmate", () -> x.inmate(9, 0), 9 % 4);
        Sentence.due("the first inmate", () -> x.inmate(0, 0), 0);
        Sentence.fails("one more", () -> x.inmate(10, 0), INDEX);
        Sentence.due("10 inmates", () -> x.account(5), 10);
    }

    private static void inmatesNotConfined() {
        Sentence.of(2, "Adds an inmate who is not confined to glass.");
        VisitBooking x = new VisitBooking();
        x.save();
        Sentence.due("the first one", () -> x.inmate(x.addInmate(0, 0), 2), 0);
        x.confine(0, true);
        Sentence.due("the second one", () -> x.inmate(x.addInmate(0, 0), 2), 0);
        x.confine(1, true);
        x.restore();
        Sentence.due("where one was who was confined", () -> x.inmate(x.addInmate(0, 0), 2), 0);
    }

    private static void visitorsInRange() {
        Sentence.of(3, "Throws `IllegalArgumentException` if the kind is out of range");
        for (Whole.Maker maker : new Whole.Maker[] {Desks.EMPTY, Desks.BUSY}) {
            Sentence.refused("kind", maker, Sentence.outside(0, 2), (x, kind) -> x.addVisitor(kind), RANGE);
        }

        Sentence.of(3, "If several exceptions apply, the one named first is thrown.");
        Sentence.refused("12 visitors, kind", TWELVE_VISITORS, Sentence.outside(0, 2), (x, k) -> x.addVisitor(k), RANGE);

        Sentence.of(3, "Adds a visitor.");
        for (int kind = 0; kind <= 2; kind++) {
            int any = kind;
            VisitBooking x = new VisitBooking();
            Sentence.due("kind " + kind, () -> x.addVisitor(any), 0);
            Sentence.due("there is one", () -> x.account(6), 1);
        }
    }

    private static void twelfthVisitor() {
        Sentence.of(3, "Throws `IllegalStateException` if there are 12 visitors");
        for (int kind = 0; kind <= 2; kind++) {
            int any = kind;
            Sentence.refused("a thirteenth", TWELVE_VISITORS, x -> x.addVisitor(any), STATE);
        }

        Sentence.of(3, "Returns the number of the visitor.");
        VisitBooking x = new VisitBooking();
        for (int k = 0; k < 12; k++) {
            int number = k;
            Sentence.due("visitor " + k, () -> x.addVisitor(number % 3), number);
        }

        Sentence.of(3, "There are at most 10 inmates and at most 12 visitors, each numbered from 0 in the order");
        Sentence.due("12 visitors", () -> x.account(6), 12);
        x.addInmate(0, 2);
        x.addRoom(0, 1, true);
        Sentence.due("the last one comes", () -> x.visit(x.book(0, 1 << 11, 0, 0), 1), 1 << 11);
        Sentence.fails("no other one", () -> x.book(0, 1 << 12, 0, 1), RANGE);
    }

    private static void kindsOfVisitors() {
        Sentence.of(3, "A visitor is of a kind: 0 family, 1 friend, 2 lawyer.");
        VisitBooking x = Desks.withRoom();
        for (int kind = 0; kind <= 2; kind++) {
            x.ban(1, 0, kind, kind, kind);
            for (int visitor = 0; visitor <= 2; visitor++) {
                int day = kind;
                int set = 1 << visitor;
                Sentence.due("visitor " + visitor + ", ban of kind " + kind, () -> x.refusal(0, set, day, 0),
                        visitor == kind ? 2 : 0);
            }
        }
        Sentence.due("family counts", () -> x.visit(x.book(0, 1, 5, 0), 7), 1);
        Sentence.due("a friend counts", () -> x.visit(x.book(0, 2, 5, 1), 7), 1);
        Sentence.due("a lawyer does not count", () -> x.visit(x.book(0, 4, 5, 2), 7), 0);
    }

    private static void levels() {
        Sentence.of(6, "Throws `IndexOutOfBoundsException` if there is no such inmate");
        Sentence.refused("inmate", Desks.BUSY, Sentence.outside(0, Desks.INMATES - 1), (x, i) -> x.setLevel(i, 0), INDEX);
        Sentence.refused("no inmates", Desks.EMPTY, x -> x.setLevel(0, 0), INDEX);

        Sentence.of(6, "Throws `IllegalArgumentException` if the level is out of range");
        Sentence.refused("level", Desks.BUSY, Sentence.outside(0, 2), (x, level) -> x.setLevel(0, level), RANGE);

        Sentence.of(6, "If several exceptions apply, the one named first is thrown.");
        Sentence.refused("no inmate, no level", Desks.BUSY, x -> x.setLevel(Desks.INMATES, 3), INDEX);

        Sentence.of(6, "Returns the previous level.");
        VisitBooking x = Desks.BUSY.make();
        int[] levels = {0, 2, 1, 1, 0, 0, 2};
        int previous = 2;
        for (int level : levels) {
            Sentence.due("to " + level, () -> x.setLevel(0, level), previous);
            previous = level;
        }

        Sentence.of(6, "Sets the level of an inmate.");
        Sentence.due("the level", () -> x.inmate(0, 1), 2);
        Sentence.due("of the other one", () -> x.inmate(1, 1), 1);
        x.setLevel(Desks.INMATES - 1, 0);
        Sentence.due("of the last one", () -> x.inmate(Desks.INMATES - 1, 1), 0);
    }

    private static void levelsAndVisits() {
        Sentence.of(6, "Visits that are booked stay.");
        VisitBooking x = Desks.withRoom();
        for (int slot = 0; slot < 3; slot++) {
            x.book(0, 1, 0, slot);
        }
        x.setLevel(0, 0);
        Sentence.due("all three", () -> x.account(2), 3);
        Sentence.due("none is cancelled", () -> x.account(4), 0);
        Sentence.due("no notice", () -> x.account(10), 0);
        Sentence.due("no more can be booked", () -> x.refusal(0, 1, 0, 3), 3);
        x.setLevel(0, 2);
        x.wish(0, 1, 9, 9);
        Sentence.due("a wish is not looked at", () -> x.setLevel(0, 2) + x.account(1), 5);
    }

    private static void settingsInRange() {
        Sentence.of(9, "Throws `IndexOutOfBoundsException` if there is no such setting");
        Sentence.refused("setting", Desks.BUSY, Sentence.outside(0, 3), (x, what) -> x.set(what, 0), INDEX);

        Sentence.of(9, "Throws `IllegalArgumentException` if the number is out of range");
        for (int setting = 0; setting <= 3; setting++) {
            int what = setting;
            Sentence.refused("setting " + what, Desks.BUSY, Sentence.outside(0, what == 3 ? 12 : 9),
                    (x, value) -> x.set(what, value), RANGE);
        }

        Sentence.of(9, "If several exceptions apply, the one named first is thrown.");
        Sentence.refused("setting 4 to 99", Desks.BUSY, x -> x.set(4, 99), INDEX);
        Sentence.refused("setting -1 to -1", Desks.BUSY, x -> x.set(-1, -1), INDEX);

        Sentence.of(9, "- `what`: 0 to 2 the quota of this level, 0 to 9; 3 the places for searches in each slot");
        VisitBooking x = new VisitBooking();
        for (int setting = 0; setting <= 3; setting++) {
            int what = setting;
            int most = what == 3 ? 12 : 9;
            Sentence.due("setting " + what + " to 0", () -> x.set(what, 0), what + 1);
            Sentence.due("setting " + what + " to the most", () -> x.set(what, most), 0);
            Sentence.due("setting " + what + " to 1", () -> x.set(what, 1), most);
        }

        Sentence.of(9, "Returns the previous one.");
        Sentence.due("the same again", () -> x.set(0, 1), 1);
        Sentence.due("the same again", () -> x.set(3, 1), 1);

        Sentence.of(9, "Sets a setting.");
        x.set(3, 12);
        Sentence.due("places in the first slot", () -> x.slot(0, 0, true), 12);
        Sentence.due("places in the last slot", () -> x.slot(55, 3, true), 12);
        Sentence.due("not another one", () -> x.set(2, 9), 1);
    }

    private static void settingsAndVisits() {
        Sentence.of(9, "Visits that are booked stay.");
        VisitBooking x = Desks.small();
        x.addRoom(0, 2, false);
        x.book(0, 3, 0, 0);
        x.book(0, 1, 0, 1);
        x.set(2, 0);
        x.set(3, 0);
        Sentence.due("both", () -> x.account(2), 2);
        Sentence.due("no notice", () -> x.account(10), 0);
        Sentence.due("their room", () -> x.visit(0, 4), 0);

        Sentence.of(9, "and places for searches that are left can be less than 0");
        Sentence.due("two too few", () -> x.slot(0, 0, true), -2);
        x.set(3, 1);
        Sentence.due("one too few", () -> x.slot(0, 0, true), -1);
        Sentence.due("none left", () -> x.slot(0, 1, true), 0);
        Sentence.due("another slot", () -> x.slot(0, 2, true), 1);

        Sentence.of(9, "A booking is refused for the quota also if more visits count than the quota");
        x.set(2, 1);
        Sentence.leavesReport("two count, one may", () -> {
            VisitBooking y = Desks.withRoom();
            y.book(0, 1, 0, 0);
            y.book(0, 1, 0, 1);
            y.set(2, 1);
            return y;
        }, y -> y.book(0, 1, 6, 3), 0, 27, 3, 1);
        Sentence.due("so many may", () -> x.set(2, 3) + x.refusal(0, 1, 6, 3), 1);
        Sentence.due("so few may", () -> x.set(2, 2) + x.refusal(0, 1, 6, 3), 3 + 3);
    }

    private static void inmateNumbers() {
        Sentence.of(10, "- `what`: 0 the wing; 1 the level; 2 whether the inmate is confined to glass (1) or not (0)");
        int[][] numbers = {{0, 2, 0, 1, 1}, {2, 1, 0, 1, 1}, {3, 1, 1, 0, 0}, {2, 2, 0, 2, 1}, {0, 1, 0, 0, 0}};
        for (int inmate = 0; inmate < Desks.INMATES; inmate++) {
            for (int what = 0; what <= 4; what++) {
                int i = inmate;
                int w = what;
                Sentence.reads("number " + what + " of " + inmate, Desks.BUSY, x -> x.inmate(i, w), numbers[i][w]);
            }
        }

        Sentence.of(10, "Returns a number of an inmate.");
        VisitBooking x = new VisitBooking();
        x.addInmate(3, 0);
        int[] fresh = {3, 0, 0, 0, 0};
        for (int what = 0; what <= 4; what++) {
            int w = what;
            Sentence.due("number " + what, () -> x.inmate(0, w), fresh[w]);
        }
    }

    private static void inmateWeeks() {
        Sentence.of(10, "Returns the number.");
        VisitBooking x = Desks.withRoom();
        x.book(0, 1, 0, 0);
        x.book(0, 2, 6, 3);
        x.book(0, 4, 6, 2);
        x.book(0, 5, 6, 1);
        x.book(0, 1, 7, 0);
        x.book(0, 1, 13, 3);
        x.book(0, 1, 14, 0);
        Sentence.due("booked ones", () -> x.inmate(0, 3), 7);
        Sentence.due("that count in the first week", () -> x.inmate(0, 4), 3);
        x.pass(6);
        Sentence.due("booked ones on the last day of the week", () -> x.inmate(0, 3), 6);
        Sentence.due("a held one counts", () -> x.inmate(0, 4), 3);
        x.cancel(1);
        Sentence.due("a cancelled one does not", () -> x.inmate(0, 4), 2);

        Sentence.of(10, "Week w consists of the days from 7 * w to 7 * w + 6.");
        x.pass(1);
        Sentence.due("on the first day of the second week", () -> x.inmate(0, 4), 2);
        x.pass(6);
        Sentence.due("on its last day", () -> x.inmate(0, 4), 2);
        x.pass(1);
        Sentence.due("on the first day of the third week", () -> x.inmate(0, 4), 1);
        x.pass(7);
        Sentence.due("in the fourth week", () -> x.inmate(0, 4), 0);
        x.book(0, 1, 55, 3);
        x.pass(20);
        x.pass(13);
        Sentence.due("on day 54", () -> x.inmate(0, 4), 1);
        x.pass(1);
        Sentence.due("on day 55", () -> x.inmate(0, 4), 1);
    }

    private static void inmateWrong() {
        Sentence.of(10, "Throws `IndexOutOfBoundsException` if there is no such inmate");
        Sentence.refused("inmate", Desks.BUSY, Sentence.outside(0, Desks.INMATES - 1), (x, i) -> x.inmate(i, 0), INDEX);

        Sentence.of(10, "Throws `IllegalArgumentException` if what is out of range");
        Sentence.refused("what", Desks.BUSY, Sentence.outside(0, 4), (x, what) -> x.inmate(0, what), RANGE);

        Sentence.of(10, "If several exceptions apply, the one named first is thrown.");
        Sentence.refused("no inmate, no number", Desks.BUSY, x -> x.inmate(Desks.INMATES, 5), INDEX);
    }
}
