import java.util.ArrayList;
import java.util.List;

/** Boundary cases of the promises 33 to 35: undo and snapshots. */
final class BoundariesOfChanges {
    private static final Class<IllegalStateException> STATE = IllegalStateException.class;
    private static final Class<IndexOutOfBoundsException> INDEX = IndexOutOfBoundsException.class;

    private BoundariesOfChanges() {
    }

    static void all() {
        noChange();
        eightChanges();
        changesAgain();
        ringOfChanges();
        eachChange();
        differentNothing();
        noChanges();
        undoLeaves();
        savedAgain();
        savedLeaves();
        restoreOfNothing();
        restoredAgain();
        restoredChanges();
        codesAndExceptions();
    }

    // ---- promise 33

    private static void noChange() {
        Sentence.of(33, "Throws `IllegalStateException` if there is none");
        Sentence.refused("a new desk", Desks.EMPTY, x -> x.undo(), STATE);
        Whole.Maker back = () -> {
            VisitBooking x = new VisitBooking();
            x.addInmate(0, 0);
            x.undo();
            return x;
        };
        Sentence.refused("one was taken back", back, x -> x.undo(), STATE);
        Whole.Maker allBack = () -> {
            VisitBooking x = Desks.BUSY.make();
            for (int k = 0; k < 8; k++) {
                x.undo();
            }
            return x;
        };
        Sentence.refused("eight were taken back", allBack, x -> x.undo(), STATE);
    }

    private static void eightChanges() {
        Sentence.of(33, "The 8 latest changes are kept");
        for (int changes = 1; changes <= 10; changes++) {
            VisitBooking x = new VisitBooking();
            for (int k = 1; k <= changes; k++) {
                x.set(3, k);
            }
            int kept = Math.min(8, changes);
            for (int k = 1; k <= kept; k++) {
                int left = kept - k;
                int places = changes - k == 0 ? 4 : changes - k;
                Sentence.due("of " + changes + ", " + k + " taken back", () -> x.undo(), left);
                Sentence.due("the places", () -> x.slot(0, 0, true), places);
            }
            Sentence.fails("no more of " + changes, () -> x.undo(), STATE);
        }

        Sentence.of(33, "older ones are gone for good.");
        VisitBooking x = new VisitBooking();
        for (int k = 0; k < 10; k++) {
            x.addInmate(0, 0);
        }
        for (int k = 0; k < 8; k++) {
            x.undo();
        }
        Sentence.fails("the ninth", () -> x.undo(), STATE);
        Sentence.due("two stay", () -> x.account(5), 2);
        x.addVisitor(0);
        Sentence.due("another one", () -> x.undo(), 0);
        Sentence.fails("they do not come back", () -> x.undo(), STATE);
    }

    private static void changesAgain() {
        Sentence.of(33, "Takes back the latest change that was not taken back");
        VisitBooking x = new VisitBooking();
        x.addInmate(1, 0);
        x.addInmate(2, 0);
        x.addInmate(3, 0);
        Sentence.due("the third one", () -> x.undo(), 2);
        Sentence.due("two inmates", () -> x.account(5), 2);
        Sentence.due("the second one", () -> x.undo(), 1);
        Sentence.due("one inmate", () -> x.account(5), 1);
        Sentence.due("another second one", () -> x.addInmate(0, 2), 1);
        Sentence.due("of level 2", () -> x.inmate(1, 1), 2);

        Sentence.of(33, "Returns the number of changes that can still be taken back.");
        Sentence.due("that one", () -> x.undo(), 1);
        Sentence.due("the first one", () -> x.undo(), 0);
        Sentence.fails("none", () -> x.undo(), STATE);
    }

    /**
     * Changes made and taken back by turns, beside a list of the settings that were there ahead of them. At 0 the desk
     * is saved and restored, and a text fails ahead of each turn.
     */
    private static void ringOfChanges() {
        Sentence.of(33, "The 8 latest changes are kept");
        int[] turns = {3, -2, 9, -4, 1, 1, -8, 5, -3, 12, -8, 8, -8, 7, -7, 0, 9, -1, 1, -8, 3, 0, 8, -9, 5, 0, 10, -9};
        VisitBooking x = new VisitBooking();
        x.save();
        x.restore();
        List<Integer> kept = new ArrayList<>();
        int places = 4;
        int made = 0;
        for (int turn : turns) {
            Check.outcome(() -> Check.perform(x, "x0"));
            if (turn == 0) {
                x.save();
                x.restore();
                kept.clear();
            }
            for (int k = 0; k < Math.abs(turn); k++) {
                if (turn > 0) {
                    kept.add(places);
                    made++;
                    places = made % 13;
                    int next = places;
                    Sentence.due("change " + made, () -> x.set(3, next), kept.get(kept.size() - 1));
                    if (kept.size() > 8) {
                        kept.remove(0);
                    }
                } else if (kept.isEmpty()) {
                    Sentence.fails("none is left", () -> x.undo(), STATE);
                } else {
                    places = kept.remove(kept.size() - 1);
                    int left = kept.size();
                    int now = places;
                    Sentence.due("taken back", () -> x.undo(), left);
                    Sentence.due("the places", () -> x.slot(0, 0, true), now);
                }
            }
        }
    }

    /** Behind a change and undo all is as ahead of it, but for the oldest change. */
    private static void change(String what, Whole.Act act) {
        VisitBooking x = Desks.QUIET.make();
        VisitBooking y = Desks.QUIET.make();
        String answer = Check.outcome(() -> act.on(x));
        Sentence.isTrue(what + " answers, not " + answer, !answer.startsWith("throws"));
        Sentence.due(what + " is taken back", () -> x.undo(), 7);
        Sentence.due(what + ", all is as before", () -> Views.brief(x), Views.brief(y));
        for (int setting = 0; setting <= 3; setting++) {
            int number = setting;
            Sentence.due(what + ", setting " + setting, () -> x.set(number, 0), y.set(number, 0));
        }
        VisitBooking z = Desks.QUIET.make();
        z.restore();
        Check.outcome(() -> act.on(z));
        Sentence.due(what + " is one change", () -> Check.outcome(() -> z.undo()) + Check.outcome(() -> z.undo()),
                "0throws java.lang.IllegalStateException");
    }

    private static void eachChange() {
        Sentence.of(33, "a successful call of addInmate, addVisitor, addRoom, setOpen, setLevel, move, confine, set, book");
        change("addInmate", x -> x.addInmate(0, 0));
        change("addVisitor", x -> x.addVisitor(0));
        change("addRoom", x -> x.addRoom(0, 1, true));
        change("setOpen, opened", x -> x.setOpen(0, true));
        change("setOpen, closed", x -> x.setOpen(0, false));
        change("setLevel", x -> x.setLevel(0, 0));
        change("move", x -> x.move(1, 0));
        change("confine", x -> x.confine(0, true));
        change("confine, ended", x -> x.confine(2, false));
        for (int setting = 0; setting <= 3; setting++) {
            int what = setting;
            change("set " + setting, x -> x.set(what, 9));
        }
        change("book", x -> x.book(0, 2, 2, 2));
        change("wish", x -> x.wish(0, 2, 2, 2));
        change("ban of a visitor", x -> x.ban(0, 0, 1, 30, 31));
        change("ban of a kind", x -> x.ban(1, 0, 1, 30, 31));
        change("ban of a pair", x -> x.ban(2, 0, 1, 30, 31));
        change("lift", x -> x.lift(1));
        change("pass", x -> x.pass(1));
        change("pass, 20 days", x -> x.pass(20));
        change("perform", x -> Check.perform(x, "m0/3"));
        change("perform of three", x -> Check.perform(x, "m0/3;b0:b@2.2;m0/2"));
    }

    private static void differentNothing() {
        Sentence.of(33, "also if nothing is different then.");
        change("setOpen, the same", x -> x.setOpen(1, true));
        change("setLevel, the same", x -> x.setLevel(0, 2));
        change("move, the same", x -> x.move(2, 3));
        change("confine, the same", x -> x.confine(0, false));
        change("confine, anew", x -> x.confine(2, true));
        change("set, the same", x -> x.set(0, 1));
        change("perform, the same", x -> Check.perform(x, "m2/3"));
    }

    private static void noChanges() {
        Sentence.of(33, "a successful call of");
        VisitBooking x = Desks.withRoom();
        x.pass(1);
        x.undo();
        for (String text : new String[] {"", "m0/3;", "x0", "m0/3;x0"}) {
            Check.outcome(() -> Check.perform(x, text));
        }
        Check.outcome(() -> x.addInmate(4, 0));
        Check.outcome(() -> x.setOpen(1, true));
        Check.outcome(() -> x.book(0, 0, 0, 0));
        Check.outcome(() -> x.cancel(0));
        Check.outcome(() -> x.pass(0));
        Check.outcome(() -> x.ban(3, 0, 0, 0, 0));
        Check.outcome(() -> x.lift(0));
        x.refusal(0, 1, 0, 0);
        x.firstFree(0, 1);
        x.save();
        x.feed('m');
        Sentence.due("the room is taken back", () -> x.undo() * 10 + x.account(7), 40);
    }

    private static void undoLeaves() {
        Sentence.of(33, "The input buffer and the report stay.");
        VisitBooking x = Desks.BUSY.make();
        x.set(3, 9);
        String report = Whole.reportOf(x);
        for (int k = 0; k < 8; k++) {
            x.undo();
            Sentence.due("the report", () -> Whole.reportOf(x), report);
        }
        Check.feed(x, "/3");
        Sentence.due("the buffer", () -> x.perform() * 10 + x.inmate(0, 0), 13);
        VisitBooking y = Desks.QUIET.make();
        Check.perform(y, "m0/3");
        y.undo();
        Sentence.due("what was performed does not come back", () -> y.perform(), -100);
        Check.feed(y, "m0/3");
        y.undo();
        Sentence.due("what was fed stays", () -> y.perform() * 10 + y.inmate(0, 0), 13);
        VisitBooking z = Desks.BUSY.make();
        z.undo();
        Sentence.due("what was saved stays", () -> z.restore(), 4);
    }

    // ---- promises 34 and 35

    private static void savedAgain() {
        Sentence.of(34, "Saves everything except the input buffer, the report and the changes, in place of what was saved");
        VisitBooking x = Desks.BUSY.make();
        x.setLevel(0, 0);
        x.save();
        x.setLevel(0, 1);
        x.restore();
        Sentence.due("what was saved last", () -> x.inmate(0, 1), 0);
        x.setLevel(0, 1);
        x.save();
        x.setLevel(0, 2);
        x.restore();
        Sentence.due("what was saved after that", () -> x.inmate(0, 1), 1);

        Sentence.of(34, "Returns the number of booked visits.");
        Sentence.due("none", () -> new VisitBooking().save(), 0);
        VisitBooking y = Desks.withRoom();
        Desks.bookLawyer(y, 60, 0);
        Sentence.due("60", () -> y.save(), 60);
        y.cancel(59);
        Sentence.due("59", () -> y.save(), 59);
        y.pass(1);
        Sentence.due("four are held", () -> y.save(), 55);
        Sentence.due("four and one", () -> y.account(1) - y.account(2), 5);
    }

    private static void savedLeaves() {
        Sentence.of(34, "Saves everything except the input buffer, the report and the changes");
        VisitBooking x = Desks.BUSY.make();
        String view = Views.brief(x);
        String report = Whole.reportOf(x);
        Sentence.due("four visits", () -> x.save(), 4);
        Sentence.due("nothing else is different", () -> Views.brief(x), view);
        Sentence.due("the report stays", () -> Whole.reportOf(x), report);
        Sentence.due("the buffer stays", () -> x.feed('/'), 3);
        Sentence.due("the changes stay", () -> x.undo(), 7);
        Check.outcome(() -> x.book(0, 4, 4, 3));
        String later = Whole.reportOf(x);
        x.restore();
        Sentence.due("a later report stays", () -> Whole.reportOf(x), later);
        Sentence.due("all is as it was", () -> Views.brief(x), view);
        x.feed('3');
        Sentence.due("a longer buffer stays", () -> x.perform() * 10 + x.inmate(0, 0), 13);
    }

    private static void restoreOfNothing() {
        Sentence.of(35, "Throws `IllegalStateException` if nothing was saved");
        Sentence.refused("on a new desk", Desks.EMPTY, x -> x.restore(), STATE);
        Sentence.refused("on a desk with visits", () -> {
            VisitBooking x = Desks.withRoom();
            x.book(0, 1, 0, 0);
            x.cancel(0);
            Check.outcome(() -> x.book(0, 1, 0, 4));
            x.feed('m');
            return x;
        }, x -> x.restore(), STATE);
        Sentence.due("a new desk was saved", () -> {
            VisitBooking x = new VisitBooking();
            x.save();
            x.addInmate(0, 0);
            return x.restore() + x.account(5);
        }, 0);
    }

    private static void restoredAgain() {
        Sentence.of(35, "Restores what was saved, which stays saved");
        VisitBooking x = Desks.QUIET.make();
        x.save();
        String view = Views.brief(x);
        Whole.Act[] acts = {y -> y.pass(20), y -> y.cancel(1), y -> y.ban(1, 0, 0, 0, 55), y -> y.lift(0),
            y -> y.move(1, 0), y -> y.setOpen(1, false), y -> y.confine(0, true), y -> y.addInmate(0, 0),
            y -> y.addVisitor(0), y -> y.addRoom(0, 1, true), y -> y.wish(0, 1, 1, 1), y -> y.book(0, 1, 1, 1),
            y -> y.set(2, 0), y -> y.set(3, 0), y -> y.setLevel(0, 0), y -> Check.perform(y, "x3;m0/3;m1/0"),
            y -> y.undo()};
        for (int k = 0; k < acts.length; k++) {
            int number = k;
            Sentence.isTrue("act " + k, !Check.outcome(() -> acts[number].on(x)).startsWith("throws")
                    || k == acts.length - 1);
            Sentence.due("behind act " + k, () -> x.restore(), 4);
            Sentence.due("all is as it was, " + k, () -> Views.brief(x), view);
        }
        int[] settings = {1, 5, 3, 6};
        for (int k = 0; k < 4; k++) {
            int what = k;
            Sentence.due("setting " + k, () -> x.set(what, 7), settings[what]);
        }
        x.restore();
        for (int k = 0; k < 4; k++) {
            int what = k;
            Sentence.due("setting " + k + " again", () -> x.set(what, 7), settings[what]);
        }

        Sentence.of(35, "Returns the number of booked visits.");
        Sentence.due("of what was saved", () -> x.pass(20) * 10 + x.restore(), 44);
        VisitBooking y = Desks.withRoom();
        Desks.bookLawyer(y, 60, 0);
        y.save();
        y.pass(20);
        Sentence.due("60", () -> y.restore(), 60);
    }

    private static void restoredChanges() {
        Sentence.of(35, "No change can be taken back afterwards.");
        VisitBooking x = Desks.BUSY.make();
        x.restore();
        Sentence.fails("none", () -> x.undo(), STATE);
        x.set(3, 1);
        x.set(3, 2);
        Sentence.due("those after it", () -> x.undo(), 1);
        Sentence.due("both", () -> x.undo(), 0);
        Sentence.due("the places", () -> x.slot(0, 0, true), 4);
        Sentence.fails("no more", () -> x.undo(), STATE);

        Sentence.of(35, "the input buffer and the report stay.");
        VisitBooking y = Desks.BUSY.make();
        String report = Whole.reportOf(y);
        y.restore();
        Sentence.due("the report", () -> Whole.reportOf(y), report);
        Check.feed(y, "/3");
        Sentence.due("the buffer", () -> y.perform() * 10 + y.inmate(0, 0), 13);
    }

    // ---- what holds for all

    private static void codesAndExceptions() {
        Sentence.of(33, "A method that throws an exception or returns an error code leaves the state unchanged");
        Sentence.reads("an error code", Desks.QUIET, x -> Check.perform(x, "x1;m0/1;b"), -109);
        Sentence.refused("an exception", Desks.BUSY, x -> x.cancel(Desks.VISITS), INDEX);
        Sentence.refused("an exception of a text", Desks.QUIET, x -> Check.perform(x, "x1;m0/1;x2"),
                UnsupportedOperationException.class);
    }
}
