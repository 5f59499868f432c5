import java.util.ArrayList;
import java.util.HashMap;
import java.util.List;
import java.util.Map;
import java.util.Set;
import java.util.TreeMap;

/**
 * What the boundary tests are about: a promise and words of the document. All sentences of the document must have
 * come up in the end, and each one must have been asked something.
 */
final class Sentence {
    /** What asks nothing of the class: names of paragraphs, and what nobody can ask for. */
    private static final Set<String> NO_SENTENCES = Set.of("Time.", "Inmates and visitors.", "Rooms.", "Searches.",
            "Visits.", "Bans.", "Rooms for a visit.", "Refusals.", "Notices.", "Changes for visits.", "Wishes.",
            "Reports.", "Texts.", "Details.", "A text of commands has the form", "The class is not thread-safe.");

    private static final Document DOCUMENT = new Document();
    /** How much each sentence was asked. */
    private static final Map<String, Integer> HAD = new TreeMap<>();
    private static final Map<Whole.Maker, Whole> BEFORE = new HashMap<>();
    private static String label = "";
    private static final List<String> NOW = new ArrayList<>();
    private static int asked = 1;

    private Sentence() {
    }

    /** From here on answers are about these words, which the document has in this promise or in its terms. */
    static void of(int promise, String words) {
        isAsked();
        label = "promise " + promise + ", \"" + words + "\": ";
        asked = 0;
        NOW.clear();
        for (int section : new int[] {promise, Document.TERMS}) {
            for (String sentence : DOCUMENT.of(section)) {
                if (sentence.contains(words)) {
                    NOW.add(nameOf(section, sentence));
                }
            }
        }
        Check.isTrue(label + "is in the document", !NOW.isEmpty());
    }

    private static String nameOf(int section, String sentence) {
        return (section == Document.TERMS ? "terms" : "promise " + section) + ", " + sentence;
    }

    private static void ask() {
        asked++;
        for (String sentence : NOW) {
            HAD.merge(sentence, 1, Integer::sum);
        }
    }

    private static void isAsked() {
        Check.isTrue(label + "was asked something", asked > 0);
    }

    static void due(String what, Check.Call call, Object want) {
        ask();
        Check.due(label + what, call, want);
    }

    static void isTrue(String what, boolean holds) {
        ask();
        Check.isTrue(label + what, holds);
    }

    static void fails(String what, Check.Call call, Class<? extends RuntimeException> want) {
        ask();
        Check.fails(label + what, call, want);
    }

    /** A call that throws, and changes nothing at all. */
    static void refused(String what, Whole.Maker maker, Whole.Act act, Class<? extends RuntimeException> want) {
        fails(what, () -> act.on(maker.make()), want);
        changes(what, maker, act, List.of());
    }

    /** The same for each of some numbers. */
    static void refused(String what, Whole.Maker maker, int[] numbers, Numbered act,
            Class<? extends RuntimeException> want) {
        for (int number : numbers) {
            refused(what + " " + number, maker, x -> act.on(x, number), want);
        }
    }

    interface Numbered {
        Object on(VisitBooking x, int number);
    }

    /** A call that answers and changes nothing at all. */
    static void reads(String what, Whole.Maker maker, Whole.Act act, Object want) {
        due(what, () -> act.on(maker.make()), want);
        changes(what, maker, act, List.of());
    }

    /** A booking that is refused; nothing changes but the report, which has these levels then. */
    static void leavesReport(String what, Whole.Maker maker, Whole.Act act, int... numbers) {
        fails(what, () -> act.on(maker.make()), UnsupportedOperationException.class);
        VisitBooking x = maker.make();
        Check.outcome(() -> act.on(x));
        reported(what, x, numbers);
        List<String> differences = new Whole(maker, act).differences(before(maker));
        differences.remove("report");
        due(what + ", changes behind it", () -> differences, List.of());
    }

    /** The levels of a report, two numbers each, and no more. */
    static void reported(String what, VisitBooking x, int... numbers) {
        for (int k = 0; k < numbers.length; k++) {
            int place = k;
            due(what + ", level " + place / 2 + " of the report, " + (place % 2 == 0 ? "first" : "second"),
                    () -> x.report(place / 2, place % 2 == 1), numbers[place]);
        }
        boolean isMore = Check.outcome(() -> x.report(numbers.length / 2, false)).startsWith("throws");
        isTrue(what + ", no more levels of the report", isMore);
    }

    private static void changes(String what, Whole.Maker maker, Whole.Act act, List<String> want) {
        due(what + ", changes behind it", () -> new Whole(maker, act).differences(before(maker)), want);
    }

    private static Whole before(Whole.Maker maker) {
        return BEFORE.computeIfAbsent(maker, m -> new Whole(m, Whole.NOTHING));
    }

    /** Numbers just outside of a range, and far outside. */
    static int[] outside(int least, int most) {
        return new int[] {least - 1, most + 1, Integer.MIN_VALUE, Integer.MAX_VALUE};
    }

    static void end(boolean isTold) {
        isAsked();
        if (isTold) {
            HAD.forEach((sentence, count) -> System.out.println(count + " answers: " + sentence));
        }
        for (int section = Document.TERMS; section <= Document.PROMISES; section++) {
            Check.isTrue("the document has sentences of " + section, !DOCUMENT.of(section).isEmpty());
            for (String sentence : DOCUMENT.of(section)) {
                Check.isTrue("something asks for " + nameOf(section, sentence),
                        NO_SENTENCES.contains(sentence) || HAD.containsKey(nameOf(section, sentence)));
            }
        }
    }
}
