import java.util.ArrayList;
import java.util.List;

/**
 * All that can be seen of a desk behind an act: what the readers tell, the settings, the report, the input buffer,
 * the changes that can be taken back, and what was saved. Each part is looked at on a desk of its own that is made
 * the same way, as looking at most of them changes the desk.
 */
final class Whole {
    interface Maker {
        VisitBooking make();
    }

    interface Act {
        Object on(VisitBooking x);
    }

    static final Act NOTHING = x -> 0;
    private static final int MOST_CHANGES = 9;
    private static final int SETTINGS = 4;
    private static final String[] NAMES = {"state", "report", "buffer", "changes", "saved"};

    private final List<String> parts = new ArrayList<>();

    Whole(Maker maker, Act act) {
        parts.add(stateOf(behind(maker, act)));
        parts.add(reportOf(behind(maker, act)));
        parts.add(bufferOf(maker, act));
        parts.add(changesOf(maker, act));
        VisitBooking x = behind(maker, act);
        parts.add(Check.outcome(() -> x.restore()) + "\n" + stateOf(x));
    }

    /** The names of the parts that are not the same. */
    List<String> differences(Whole other) {
        List<String> names = new ArrayList<>();
        for (int part = 0; part < NAMES.length; part++) {
            if (!parts.get(part).equals(other.parts.get(part))) {
                names.add(NAMES[part]);
            }
        }
        return names;
    }

    private static VisitBooking behind(Maker maker, Act act) {
        VisitBooking x = maker.make();
        Check.outcome(() -> act.on(x));
        return x;
    }

    private static String bufferOf(Maker maker, Act act) {
        VisitBooking x = behind(maker, act);
        VisitBooking y = behind(maker, act);
        return Check.outcome(() -> x.feed('0')) + " " + Check.outcome(() -> y.perform()) + "\n" + stateOf(y);
    }

    private static String changesOf(Maker maker, Act act) {
        StringBuilder text = new StringBuilder();
        for (int changes = 1; changes <= MOST_CHANGES; changes++) {
            VisitBooking x = behind(maker, act);
            for (int k = 0; k < changes; k++) {
                text.append(Check.outcome(() -> x.undo())).append(' ');
            }
            text.append(stateOf(x));
        }
        return text.toString();
    }

    static String reportOf(VisitBooking x) {
        StringBuilder text = new StringBuilder();
        for (int level = 0; level < 4; level++) {
            int number = level;
            text.append(Check.outcome(() -> x.report(number, false))).append(' ');
            text.append(Check.outcome(() -> x.report(number, true))).append('\n');
        }
        return text.toString();
    }

    /** What undo takes back and a snapshot holds; the desk has other settings then. */
    private static String stateOf(VisitBooking x) {
        StringBuilder text = new StringBuilder(Views.brief(x));
        for (int what = 0; what < SETTINGS; what++) {
            text.append(x.set(what, 0)).append(' ');
        }
        return text.append('\n').toString();
    }
}
