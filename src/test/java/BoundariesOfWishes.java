import java.util.NoSuchElementException;

/** Boundary cases of the promises 24 to 30: wishes, notices, reports and accounts. */
final class BoundariesOfWishes {
    private static final Class<IllegalArgumentException> RANGE = IllegalArgumentException.class;
    private static final Class<IllegalStateException> STATE = IllegalStateException.class;
    private static final Class<IndexOutOfBoundsException> INDEX = IndexOutOfBoundsException.class;
    private static final Class<NoSuchElementException> ELEMENT = NoSuchElementException.class;
    private static final Class<ArithmeticException> ARITHMETIC = ArithmeticException.class;
    private static final Whole.Maker SIX_WISHES = BoundariesOfWishes::sixWishes;

    private BoundariesOfWishes() {
    }

    static void all() {
        wishWrong();
        wishDays();
        sixthWish();
        wishBooksNothing();
        wishedSlots();
        wishedFromPresentDay();
        wishedOnce();
        wishedNumbers();
        noticePlaces();
        twentyNotices();
        kindsOfNotices();
        reportLevels();
        reportOfCommand();
        accountRange();
        accountNumbers();
        meanOfNone();
        useInRange();
        useByWeeks();
        useOfNone();
    }

    private static VisitBooking sixWishes() {
        VisitBooking x = Desks.withRoom();
        x.pass(5);
        for (int k = 0; k < 6; k++) {
            x.wish(0, 1 + k % 3, k, 50 + k);
        }
        return x;
    }

    // ---- promise 24

    private static void wishWrong() {
        Sentence.of(24, "Throws `IndexOutOfBoundsException` if there is no such inmate");
        Sentence.refused("inmate", Desks.BUSY, Sentence.outside(0, Desks.INMATES - 1), (x, i) -> x.wish(i, 1, 5, 6),
                INDEX);
        Sentence.refused("no inmates", Desks.EMPTY, x -> x.wish(0, 1, 5, 6), INDEX);

        Sentence.of(24, "Throws `IllegalArgumentException` if the set does not have 1 to 3 visitors, or one that does not");
        int[] sets = {0, 15, 16, 17, 1 << 12, 1 << 30, 1 << 31, -1, Integer.MAX_VALUE};
        Sentence.refused("set", Desks.BUSY, sets, (x, set) -> x.wish(0, set, 5, 6), RANGE);
        for (int set : new int[] {1, 8, 3, 12, 7, 14}) {
            VisitBooking x = Desks.BUSY.make();
            Sentence.due("set " + set, () -> x.wish(0, set, 5, 6), Desks.WISHES + 1);
            Sentence.due("it has it", () -> x.wished(Desks.WISHES, 1), set);
        }
        Sentence.due("the last inmate", () -> Desks.BUSY.make().wish(Desks.INMATES - 1, 1, 5, 6), Desks.WISHES + 1);

        Sentence.of(24, "If several exceptions apply, the one named first is thrown.");
        Sentence.refused("no inmate, no set", Desks.BUSY, x -> x.wish(Desks.INMATES, 0, 5, 6), INDEX);
        Sentence.refused("no inmate, no days", Desks.BUSY, x -> x.wish(Desks.INMATES, 1, 6, 5), INDEX);
        Sentence.refused("no inmate, six wishes", SIX_WISHES, x -> x.wish(1, 1, 5, 6), INDEX);
        Sentence.refused("no set, six wishes", SIX_WISHES, x -> x.wish(0, 8, 5, 6), RANGE);
        Sentence.refused("no days, six wishes", SIX_WISHES, x -> x.wish(0, 1, 6, 5), RANGE);
        Sentence.refused("days are over, six wishes", SIX_WISHES, x -> x.wish(0, 1, 0, 4), RANGE);
    }

    private static void wishDays() {
        Sentence.of(24, "or the days are not in ascending order from 0 to 55");
        int[][] wrong = {{-1, 5}, {5, 56}, {56, 56}, {55, 56}, {6, 5}, {55, 1}, {-1, -1}, {-2, -1}, {0, -1},
            {Integer.MIN_VALUE, 5}, {5, Integer.MAX_VALUE}, {Integer.MIN_VALUE, Integer.MAX_VALUE}};
        for (int[] day : wrong) {
            Sentence.refused("days " + day[0] + " to " + day[1], Desks.BUSY, x -> x.wish(0, 1, day[0], day[1]), RANGE);
        }
        int[][] right = {{0, 55}, {0, 1}, {1, 1}, {55, 55}, {1, 55}, {54, 55}};
        for (int[] day : right) {
            VisitBooking x = Desks.BUSY.make();
            Sentence.due("days " + day[0] + " to " + day[1], () -> x.wish(0, 1, day[0], day[1]), Desks.WISHES + 1);
            Sentence.due("the first one", () -> x.wished(Desks.WISHES, 2), day[0]);
            Sentence.due("the last one", () -> x.wished(Desks.WISHES, 3), day[1]);
        }

        Sentence.of(24, "or the last day is before the present one");
        Sentence.refused("the day before", Desks.BUSY, x -> x.wish(0, 1, 0, Desks.TODAY - 1), RANGE);
        VisitBooking x = Desks.withRoom();
        x.pass(20);
        x.pass(20);
        Sentence.fails("day 39", () -> x.wish(0, 1, 39, 39), RANGE);
        Sentence.due("day 40", () -> x.wish(0, 1, 40, 40), 1);
        x.pass(15);
        Sentence.fails("day 54", () -> x.wish(0, 1, 0, 54), RANGE);
        Sentence.due("day 55", () -> x.wish(0, 1, 0, 55), 1);
        Sentence.due("on the first day", () -> Desks.withRoom().wish(0, 1, 0, 0), 1);
    }

    private static void sixthWish() {
        Sentence.of(24, "Throws `IllegalStateException` if there are 6 wishes");
        Sentence.refused("a seventh", SIX_WISHES, x -> x.wish(0, 1, 5, 6), STATE);

        Sentence.of(24, "Returns the number of wishes.");
        VisitBooking x = Desks.withRoom();
        for (int k = 1; k <= 6; k++) {
            int number = k;
            Sentence.due("wish " + k, () -> x.wish(0, 1, 10 - number, 10), number);
        }

        Sentence.of(24, "There are at most 6 wishes, in the order in which they were made.");
        for (int k = 0; k < 6; k++) {
            int place = k;
            Sentence.due("place " + k, () -> x.wished(place, 2), 9 - place);
        }

        Sentence.of(24, "Makes a wish, which is the last one then.");
        x.undo();
        Sentence.due("another sixth one", () -> x.wish(0, 6, 3, 55), 6);
        Sentence.due("it is the last one", () -> x.wished(5, 1), 6);
    }

    private static void wishBooksNothing() {
        Sentence.of(24, "Nothing is booked by that.");
        VisitBooking x = Desks.withRoom();
        x.wish(0, 1, 0, 55);
        Sentence.due("no visit", () -> x.account(1), 0);
        Sentence.due("no notice", () -> x.account(10), 0);
        x.wish(0, 2, 0, 55);
        x.set(0, 9);
        x.setLevel(0, 1);
        x.book(0, 4, 0, 0);
        x.move(0, 0);
        x.confine(0, true);
        x.confine(0, false);
        x.ban(0, 0, 1, 9, 9);
        x.pass(1);
        x.addRoom(0, 1, true);
        Sentence.due("nor by other calls", () -> x.account(1), 1);
        Sentence.due("both wait", () -> x.account(9), 2);
    }

    private static void wishedSlots() {
        Sentence.of(24, "for each, the slots of its days from the present day on are tried in order, the days first");
        VisitBooking x = Desks.wide();
        for (int room = 1; room < 4; room++) {
            x.setOpen(room, false);
        }
        for (int k = 0; k < 11; k++) {
            x.book(1, 8, 5 + k / 4, k % 4);
        }
        x.wish(0, 4, 5, 6);
        x.wish(0, 4, 5, 7);
        x.wish(0, 4, 5, 7);
        x.wish(2, 4, 8, 8);
        Sentence.due("opening a closed one in the next wing", () -> x.setOpen(1, true), 4);
        int[] moments = {20, 21, 22, 32};
        for (int k = 0; k < 4; k++) {
            int visit = 11 + k;
            int inmate = k < 3 ? 0 : 2;
            Sentence.due("inmate of wish " + k, () -> x.visit(visit, 0), inmate);
            Sentence.due("wish " + k, () -> x.visit(visit, 2) * 4 + x.visit(visit, 3), moments[k]);
        }
        VisitBooking y = Desks.withRoom();
        Desks.bookLawyer(y, 12, 5);
        y.wish(0, 1, 5, 6);
        Sentence.due("the slot after its last day", () -> y.cancel(8) + y.account(9), 1);
        Sentence.due("the last slot of its last day", () -> y.cancel(7), 1);
        Sentence.due("it is booked there", () -> y.visit(12, 2) * 4 + y.visit(12, 3), 27);
        y.wish(0, 1, 6, 6);
        Sentence.due("the slot before its first day", () -> y.cancel(3) + y.account(9), 1);
        Sentence.due("the first slot of its first day", () -> y.cancel(4), 1);
        Sentence.due("it is booked there", () -> y.visit(13, 2) * 4 + y.visit(13, 3), 24);
        y.wish(0, 1, 5, 7);
        Sentence.due("the first day before the last one", () -> y.cancel(11), 1);
        Sentence.due("it is booked there", () -> y.visit(14, 2) * 4 + y.visit(14, 3), 23);
    }

    private static void wishedFromPresentDay() {
        Sentence.of(24, "Each wish is looked at once, on all slots of the present day, too.");
        VisitBooking x = Desks.withRoom();
        x.pass(9);
        x.setOpen(0, false);
        x.wish(0, 1, 0, 55);
        x.wish(0, 1, 9, 9);
        x.wish(0, 1, 10, 55);
        Sentence.due("all are booked", () -> x.setOpen(0, true), 3);
        int[] moments = {36, 37, 40};
        for (int k = 0; k < 3; k++) {
            int visit = k;
            Sentence.due("visit " + k, () -> x.visit(visit, 2) * 4 + x.visit(visit, 3), moments[visit]);
        }
    }

    private static void wishedOnce() {
        Sentence.of(24, "Each wish is looked at once");
        VisitBooking x = Desks.withRoom();
        x.setOpen(0, false);
        x.wish(0, 4, 5, 5);
        x.wish(0, 4, 5, 5);
        x.wish(0, 4, 5, 5);
        x.wish(0, 4, 5, 5);
        x.wish(0, 4, 5, 5);
        x.wish(0, 4, 6, 6);
        Sentence.due("four slots of day 5, one of day 6", () -> x.setOpen(0, true), 5);
        Sentence.due("the fifth one waits", () -> x.wished(0, 2), 5);
        Sentence.due("it is the only one", () -> x.account(9), 1);

        Sentence.of(24, "3 it was booked for a wish.");
        for (int k = 0; k < 5; k++) {
            int place = k;
            Sentence.due("visit of notice " + k, () -> x.notice(place, false), place);
            Sentence.due("kind of notice " + k, () -> x.notice(place, true), 3);
        }
    }

    // ---- promise 25

    private static void wishedNumbers() {
        Sentence.of(25, "Throws `IndexOutOfBoundsException` if there is no such wish");
        Sentence.refused("wish", Desks.BUSY, Sentence.outside(0, Desks.WISHES - 1), (x, w) -> x.wished(w, 0), INDEX);
        Sentence.refused("no wishes", Desks.EMPTY, x -> x.wished(0, 0), INDEX);
        Sentence.refused("wish of six", SIX_WISHES, Sentence.outside(0, 5), (x, w) -> x.wished(w, 0), INDEX);

        Sentence.of(25, "Throws `IllegalArgumentException` if what is out of range");
        Sentence.refused("what", Desks.BUSY, Sentence.outside(0, 3), (x, what) -> x.wished(0, what), RANGE);

        Sentence.of(25, "If several exceptions apply, the one named first is thrown.");
        Sentence.refused("no wish, no number", Desks.BUSY, x -> x.wished(Desks.WISHES, 4), INDEX);

        Sentence.of(25, "- `what`: 0 the inmate; 1 the set of visitors; 2 the first day; 3 the last day");
        int[][] numbers = {{1, 4, 5, 6}, {0, 9, 10, 12}};
        for (int wish = 0; wish < Desks.WISHES; wish++) {
            for (int what = 0; what <= 3; what++) {
                int p = wish;
                int w = what;
                Sentence.reads("number " + what + " of " + wish, Desks.BUSY, x -> x.wished(p, w), numbers[p][w]);
            }
        }

        Sentence.of(25, "- `wish`: the place of the wish, from 0");
        VisitBooking x = sixWishes();
        Sentence.due("the first one", () -> x.wished(0, 3), 50);
        Sentence.due("the last one", () -> x.wished(5, 3), 55);

        Sentence.of(25, "A wish has an inmate, a set of visitors, and a first and a last day.");
        Sentence.due("a first day that is over", () -> x.wished(0, 2), 0);

        Sentence.of(25, "Returns a number of a wish.");
        Sentence.due("a set", () -> x.wished(5, 1), 3);

        Sentence.of(25, "Returns the number.");
        Sentence.due("an inmate", () -> x.wished(5, 0), 0);
    }

    // ---- promise 26

    private static void noticePlaces() {
        Sentence.of(26, "Throws `NoSuchElementException` if there is no such notice");
        int[] numbers = Sentence.outside(0, Desks.NOTICES - 1);
        Sentence.refused("notice", Desks.BUSY, numbers, (x, notice) -> x.notice(notice, true), ELEMENT);
        Sentence.refused("notice", Desks.BUSY, numbers, (x, notice) -> x.notice(notice, false), ELEMENT);
        Sentence.refused("no notices", Desks.EMPTY, x -> x.notice(0, true), ELEMENT);

        Sentence.of(26, "Returns a number of a notice.");
        Sentence.reads("the visit", Desks.BUSY, x -> x.notice(0, false), 1);
        Sentence.reads("the kind", Desks.BUSY, x -> x.notice(0, true), 0);
    }

    private static void twentyNotices() {
        Sentence.of(26, "only the latest 20 are kept.");
        VisitBooking x = Desks.withRoom();
        x.addRoom(3, 3, true);
        x.book(0, 4, 5, 0);
        x.book(0, 4, 5, 1);
        x.book(0, 4, 5, 2);
        for (int k = 0; k < 9; k++) {
            x.move(0, k % 2 == 0 ? 3 : 0);
            int came = 3 * k + 3;
            int kept = Math.min(20, came);
            Sentence.due("of " + came, () -> x.account(10), kept);
            Sentence.due("the oldest one of " + came, () -> x.notice(0, false), (came - kept) % 3);
            Sentence.due("the latest one of " + came, () -> x.notice(kept - 1, false), 2);
            Sentence.fails("no other one", () -> x.notice(kept, true), ELEMENT);
        }

        Sentence.of(26, "- `notice`: the place of the notice among those that are kept, from 0 for the oldest one");
        for (int k = 0; k < 20; k++) {
            int place = k;
            Sentence.due("notice " + k, () -> x.notice(place, false), (7 + place) % 3);
        }

        Sentence.of(26, "Returns the number.");
        x.cancel(0);
        Sentence.due("a call of cancel makes none", () -> x.notice(19, true), 0);
        x.setOpen(1, false);
        x.setOpen(0, false);
        Sentence.due("the latest one has another kind", () -> x.notice(19, true), 2);
        Sentence.due("those ahead of it, too", () -> x.notice(18, true), 2);
        Sentence.due("the next ones ahead tell of other rooms", () -> x.notice(17, true), 0);
    }

    private static void kindsOfNotices() {
        Sentence.of(26, "A notice tells a visit and a kind: 0 it got another room, 1 it was cancelled by a ban");
        VisitBooking x = Desks.wide();
        x.book(0, 1, 5, 0);
        x.book(0, 2, 6, 0);
        x.book(1, 4, 5, 0);
        x.move(0, 1);
        x.ban(0, 0, 0, 5, 5);
        x.ban(2, 0, 1, 0, 55);
        x.confine(0, true);
        x.wish(0, 8, 6, 6);
        for (int room = 0; room < 4; room++) {
            x.setOpen(room, false);
        }
        x.setOpen(2, true);
        int[][] notices = {{1, 0}, {0, 1}, {2, 0}, {1, 0}, {2, 0}, {1, 0}, {2, 2}, {1, 2}, {3, 3}};
        Sentence.due("notices", () -> x.account(10), notices.length);
        for (int k = 0; k < notices.length; k++) {
            int place = k;
            Sentence.due("visit of notice " + k, () -> x.notice(place, false), notices[place][0]);
            Sentence.due("kind of notice " + k, () -> x.notice(place, true), notices[place][1]);
        }
    }

    // ---- promise 27

    private static void reportLevels() {
        Sentence.of(27, "Throws `NoSuchElementException` if there is no such level, or no report");
        Sentence.refused("no report", Desks.EMPTY, x -> x.report(0, false), ELEMENT);
        Sentence.refused("no report", Desks.EMPTY, x -> x.report(0, true), ELEMENT);
        int[] levels = Sentence.outside(0, 1);
        Sentence.refused("level", Desks.BUSY, levels, (x, level) -> x.report(level, false), ELEMENT);
        Sentence.refused("level", Desks.BUSY, levels, (x, level) -> x.report(level, true), ELEMENT);

        Sentence.of(27, "Returns a part of a level of the report.");
        Sentence.reads("inmate", Desks.BUSY, x -> x.report(0, false), 0);
        Sentence.reads("time", Desks.BUSY, x -> x.report(0, true), 0);
        Sentence.reads("reason", Desks.BUSY, x -> x.report(1, false), 1);
        Sentence.reads("detail", Desks.BUSY, x -> x.report(1, true), 1);

        Sentence.of(27, "Returns the part.");
        VisitBooking x = Desks.withRoom();
        x.addInmate(0, 0);
        x.setOpen(0, false);
        Check.outcome(() -> x.book(1, 1, 55, 3));
        Sentence.reported("the last slot", x, 1, 223, 6, 0);
    }

    private static void reportOfCommand() {
        Sentence.of(27, "If it was a command of a text, there is one more level ahead of these, with 99 and the number");
        Whole.Maker refused = () -> {
            VisitBooking x = Desks.QUIET.make();
            Check.outcome(() -> Check.perform(x, "m0/0;b0:a@0.3"));
            return x;
        };
        int[] numbers = {99, 1, 0, 3, 1, 1};
        for (int k = 0; k < 6; k++) {
            int place = k;
            Sentence.reads("part " + k, refused, x -> x.report(place / 2, place % 2 == 1), numbers[place]);
        }
        Sentence.refused("level", refused, Sentence.outside(0, 2), (x, level) -> x.report(level, false), ELEMENT);
        VisitBooking x = refused.make();
        Check.outcome(() -> x.book(0, 4, 4, 3));
        Sentence.reported("a call after that", x, 0, 19, 4, 3);
    }

    // ---- promises 28 to 30

    private static void accountRange() {
        Sentence.of(28, "Throws `IllegalArgumentException` if what is out of range");
        for (Whole.Maker maker : new Whole.Maker[] {Desks.EMPTY, Desks.BUSY}) {
            Sentence.refused("what", maker, Sentence.outside(0, 12), (x, what) -> x.account(what), RANGE);
        }

        Sentence.of(28, "- `what`: 0 the present day; 1 the visits that were ever booked; 2 the booked ones; 3 the held ones");
        int[] accounts = {Desks.TODAY, 6, 4, 1, 1, 5, 4, 3, 2, 2, 1, 1, 0};
        for (int what = 0; what <= 12; what++) {
            int account = what;
            Sentence.reads("account " + what, Desks.BUSY, x -> x.account(account), accounts[account]);
        }
    }

    private static void accountNumbers() {
        Sentence.of(28, "Returns an account.");
        VisitBooking x = Desks.small();
        x.addInmate(3, 2);
        x.addRoom(0, 3, false);
        x.addRoom(2, 3, false);
        x.addRoom(3, 3, true);
        x.book(0, 7, 0, 0);
        x.book(1, 7, 0, 1);
        x.set(3, 9);
        x.book(0, 3, 1, 0);
        x.book(1, 4, 1, 0);
        x.setOpen(2, false);
        int[] first = {0, 4, 4, 0, 0, 2, 3, 3, 0, 0, 2, 9, 2};
        accounts(x, first);

        Sentence.of(28, "Returns the account.");
        x.pass(1);
        x.cancel(3);
        int[] then = {1, 4, 1, 2, 1, 2, 3, 3, 0, 0, 2, 2, 0};
        accounts(x, then);
        x.move(0, 2);
        x.move(0, 3);
        int[] last = {1, 4, 1, 2, 1, 2, 3, 3, 0, 0, 3, 2, 1};
        accounts(x, last);
    }

    private static void accounts(VisitBooking x, int[] due) {
        for (int k = 0; k < due.length; k++) {
            int what = k;
            Sentence.due("account " + k, () -> x.account(what), due[what]);
        }
    }

    private static void meanOfNone() {
        Sentence.of(29, "Throws `ArithmeticException` if no visits are booked");
        Sentence.refused("none ever", Desks.EMPTY, x -> x.meanDistance(), ARITHMETIC);
        Sentence.refused("held and cancelled ones", () -> {
            VisitBooking x = Desks.BUSY.make();
            x.pass(8);
            return x;
        }, x -> x.meanDistance(), ARITHMETIC);

        Sentence.of(29, "Returns the mean distance of booked visits: account 12, as a double, divided by account 2");
        Sentence.reads("no distance", Desks.BUSY, x -> x.meanDistance(), 0.0);
        VisitBooking x = Desks.small();
        x.addRoom(3, 3, true);
        x.book(0, 4, 5, 0);
        Sentence.due("a distance of 3", () -> x.meanDistance(), 3.0);
        x.addRoom(0, 3, true);
        x.book(0, 4, 5, 1);
        Sentence.due("3 and 0", () -> x.meanDistance(), 1.5);
        x.book(0, 4, 5, 2);
        Sentence.due("3, 0 and 0", () -> x.meanDistance(), 1.0);
        x.book(0, 4, 5, 3);
        Sentence.due("3 and three times 0", () -> x.meanDistance(), 0.75);

        Sentence.of(29, "Returns the mean.");
        x.addInmate(1, 2);
        x.book(1, 2, 5, 0);
        x.book(1, 1, 6, 0);
        x.book(0, 4, 6, 1);
        Sentence.due("five sevenths", () -> x.account(12) * 10 + x.account(2), 57);
        Sentence.due("as a double", () -> x.meanDistance(), 5.0 / 7.0);

        Sentence.of(29, "All numbers are integers, apart from two methods that return floating-point numbers.");
        Sentence.due("a double", () -> ((Object) x.meanDistance()).getClass().getName(), "java.lang.Double");
        Sentence.due("a float", () -> ((Object) x.use(0)).getClass().getName(), "java.lang.Float");
    }

    private static void useInRange() {
        Sentence.of(30, "Throws `IllegalArgumentException` if the week is out of range");
        Sentence.refused("week", Desks.BUSY, Sentence.outside(0, 7), (x, week) -> x.use(week), RANGE);

        Sentence.of(30, "If several exceptions apply, the one named first is thrown.");
        Sentence.refused("no inmates, week", Desks.EMPTY, Sentence.outside(0, 7), (x, week) -> x.use(week), RANGE);

        Sentence.of(30, "- `week`: the week, 0 to 7");
        VisitBooking x = Desks.withRoom();
        x.book(0, 1, 6, 3);
        x.book(0, 1, 49, 0);
        x.book(0, 1, 55, 3);
        float[] uses = {1, 0, 0, 0, 0, 0, 0, 2};
        for (int k = 0; k <= 7; k++) {
            int week = k;
            Sentence.due("week " + k, () -> x.use(week), uses[k] / 3.0f);
        }
    }

    private static void useByWeeks() {
        Sentence.of(30, "Week w consists of the days from 7 * w to 7 * w + 6.");
        for (int week = 0; week < 8; week++) {
            VisitBooking x = Desks.withRoom();
            x.setLevel(0, 0);
            x.book(0, 1, 7 * week, 0);
            VisitBooking y = Desks.withRoom();
            y.setLevel(0, 0);
            y.book(0, 1, 7 * week + 6, 3);
            for (int other = 0; other < 8; other++) {
                int any = other;
                float due = week == other ? 1.0f : 0.0f;
                Sentence.due("the first day of " + week + " in " + other, () -> x.use(any), due);
                Sentence.due("the last day of " + week + " in " + other, () -> y.use(any), due);
            }
        }

        Sentence.of(30, "Returns the use of the quotas in a week: the number of visits in it that count for quotas");
        VisitBooking x = Desks.wide();
        x.setLevel(1, 0);
        x.book(0, 1, 0, 0);
        x.book(1, 2, 0, 0);
        x.book(2, 4, 0, 0);
        x.book(2, 5, 3, 0);
        x.book(2, 1, 4, 0);
        x.cancel(4);
        x.pass(1);
        Sentence.due("held, booked, cancelled, a lawyer", () -> x.use(0), 3.0f / 7.0f);

        Sentence.of(30, "divided by the sum of the quotas of all inmates, as a float.");
        x.set(2, 4);
        Sentence.due("another quota", () -> x.use(0), 3.0f / 9.0f);
        x.set(0, 0);
        Sentence.due("one of them is 0", () -> x.use(0), 3.0f / 8.0f);
        x.addInmate(0, 1);
        Sentence.due("one inmate more", () -> x.use(0), 3.0f / 10.0f);
        x.setLevel(0, 0);
        x.setLevel(2, 0);
        Sentence.due("more than the whole", () -> x.use(0), 1.5f);
    }

    private static void useOfNone() {
        Sentence.of(30, "Throws `ArithmeticException` if the sum is 0");
        Sentence.refused("no inmates", Desks.EMPTY, x -> x.use(0), ARITHMETIC);
        Sentence.refused("no quotas", () -> {
            VisitBooking x = Desks.BUSY.make();
            x.set(1, 0);
            x.set(2, 0);
            return x;
        }, x -> x.use(0), ARITHMETIC);

        Sentence.of(30, "Returns the use.");
        VisitBooking x = Desks.withRoom();
        Sentence.due("none", () -> x.use(0), 0.0f);
        x.set(2, 9);
        x.book(0, 1, 0, 0);
        Sentence.due("a ninth", () -> x.use(0), 1.0f / 9.0f);
    }
}
