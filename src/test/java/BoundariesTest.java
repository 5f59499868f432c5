import java.util.List;

/** Each sentence of the document that names a boundary case, with a test that names its promise. */
public final class BoundariesTest {
    public static void main(String[] args) {
        partsAreSeen();
        BoundariesOfInmates.all();
        BoundariesOfRooms.all();
        BoundariesOfBookings.all();
        BoundariesOfVisits.all();
        BoundariesOfBans.all();
        BoundariesOfWishes.all();
        BoundariesOfTexts.all();
        BoundariesOfChanges.all();
        Sentence.end(args.length > 0);
        Check.end();
    }

    /** That nothing has changed is worth something only if each change is seen. */
    private static void partsAreSeen() {
        sees(Whole.NOTHING, List.of());
        sees(x -> x.feed('/'), List.of("buffer"));
        sees(x -> x.book(0, 4, 4, 3), List.of("report"));
        sees(x -> x.save(), List.of("saved"));
        sees(x -> x.set(0, 1), List.of("changes"));
        sees(x -> x.undo(), List.of("state", "buffer", "changes"));
        sees(x -> x.restore(), List.of("state", "buffer", "changes"));
        List<Whole.Act> acts = List.of(x -> x.addInmate(0, 0), x -> x.addVisitor(0), x -> x.addRoom(0, 1, true),
                x -> x.setOpen(2, false), x -> x.setLevel(0, 0), x -> x.move(0, 1), x -> x.confine(0, true),
                x -> x.set(0, 9), x -> x.set(3, 9), x -> x.book(0, 2, 9, 0), x -> x.cancel(3), x -> x.pass(1),
                x -> x.ban(0, 2, 0, 5, 5), x -> x.lift(1), x -> x.wish(2, 1, 9, 9));
        for (Whole.Act act : acts) {
            sees(act, List.of("state", "buffer", "changes"));
        }
    }

    private static void sees(Whole.Act act, List<String> parts) {
        Whole before = new Whole(Desks.BUSY, Whole.NOTHING);
        Check.due("what is seen", () -> new Whole(Desks.BUSY, act).differences(before), parts);
    }
}
