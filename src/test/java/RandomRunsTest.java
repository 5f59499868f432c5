import java.util.ArrayList;
import java.util.List;
import java.util.TreeMap;

/** Long runs of calls with numbers from a fixed row, asked of VisitBooking and of PlainDesk. */
public final class RandomRunsTest {
    private static final int RUNS = 600;
    private static final int CALLS = 512;
    private static final int[] ODD = {-1, Integer.MIN_VALUE, Integer.MAX_VALUE, 56, 12, 10, 6, 60, 4, 3, 1 << 12, 31};
    private static final TreeMap<String, Integer> SEEN = new TreeMap<>();

    private long row;
    private VisitBooking desk;
    private PlainDesk plain;
    private final List<String> calls = new ArrayList<>();
    private boolean isRight = true;
    // How a run is shaped: how many days and slots are in play, and how often a number is odd.
    private int days;
    private int slots;
    private int oddness;
    private int changesMore;
    private String pending = "";

    public static void main(String[] args) {
        int runs = args.length > 0 ? Integer.parseInt(args[0]) : RUNS;
        int wrong = 0;
        for (int run = 0; run < runs; run++) {
            RandomRunsTest test = new RandomRunsTest();
            test.row = run * 7919L + 17;
            test.play(run);
            if (!test.isRight) {
                wrong++;
            }
            if (wrong > 3) {
                break;
            }
        }
        if (args.length > 1) {
            SEEN.forEach((what, count) -> System.out.println(what + ": " + count));
        }
        Check.isTrue("all runs agree", wrong == 0);
        seen();
        Check.end();
    }

    /** The runs are worth something only if all reasons, kinds of notices and exceptions come up. */
    private static void seen() {
        for (int reason = 0; reason <= 8; reason++) {
            Check.isTrue("reason " + reason + " was seen", SEEN.containsKey("refusal " + reason));
        }
        for (int kind = 0; kind <= 3; kind++) {
            Check.isTrue("notice " + kind + " was seen", SEEN.containsKey("notice " + kind));
        }
        String[] due = {"addInmate IllegalArgumentException", "addInmate IllegalStateException",
            "addVisitor IllegalArgumentException", "addVisitor IllegalStateException",
            "addRoom IllegalArgumentException", "addRoom IllegalStateException", "setOpen IndexOutOfBoundsException",
            "setLevel IndexOutOfBoundsException", "setLevel IllegalArgumentException",
            "move IndexOutOfBoundsException", "move IllegalArgumentException", "confine IndexOutOfBoundsException",
            "set IndexOutOfBoundsException", "set IllegalArgumentException", "book IndexOutOfBoundsException",
            "book IllegalArgumentException", "book UnsupportedOperationException",
            "cancel IndexOutOfBoundsException", "cancel IllegalStateException",
            "refusal IndexOutOfBoundsException", "refusal IllegalArgumentException",
            "firstFree IndexOutOfBoundsException", "firstFree IllegalArgumentException",
            "firstFree NoSuchElementException", "pass IllegalArgumentException", "pass IllegalStateException",
            "ban IndexOutOfBoundsException", "ban IllegalArgumentException", "ban IllegalStateException",
            "lift IndexOutOfBoundsException", "wish IndexOutOfBoundsException", "wish IllegalArgumentException",
            "wish IllegalStateException", "meanDistance ArithmeticException", "use IllegalArgumentException",
            "use ArithmeticException", "feed IllegalStateException", "perform UnsupportedOperationException",
            "undo IllegalStateException", "restore IllegalStateException", "perform number", "perform negative"};
        for (String what : due) {
            Check.isTrue(what + " was seen", SEEN.containsKey(what));
        }
    }

    private int below(int limit) {
        row = row * 6364136223846793005L + 1442695040888963407L;
        return (int) ((row >>> 33) % limit);
    }

    /** A number below a limit, or now and then an odd one. */
    private int number(int limit) {
        if (below(100) < oddness) {
            return below(3) == 0 ? limit : ODD[below(ODD.length)];
        }
        return limit > 0 ? below(limit) : 0;
    }

    private int party() {
        if (below(100) < oddness) {
            return below(3) == 0 ? below(1 << 13) : ODD[below(ODD.length)];
        }
        int visitors = Math.max(1, plain.account(6));
        int set = 1 << below(visitors);
        for (int more = below(4); more > 1; more--) {
            set |= 1 << below(visitors);
        }
        return set;
    }

    private int day() {
        int today = plain.account(0);
        return below(20) == 0 ? number(56) : Math.min(55, today) + number(Math.min(56 - today, days));
    }

    private static String kindOf(String outcome) {
        if (outcome.startsWith("throws ")) {
            return outcome.substring(outcome.lastIndexOf('.') + 1);
        }
        return outcome.startsWith("-") ? "negative" : "number";
    }

    private void ask(String name, String arguments, Check.Call call, Check.Call due) {
        String got = Check.outcome(call);
        String want = Check.outcome(due);
        calls.add(name + "(" + arguments + ") " + want);
        SEEN.merge(name + " " + kindOf(want), 1, Integer::sum);
        if (name.equals("refusal") || name.equals("notice") && arguments.endsWith("true")) {
            SEEN.merge(name + " " + want, 1, Integer::sum);
        }
        if (!got.equals(want) && isRight) {
            isRight = false;
            System.out.println(name + "(" + arguments + ") answered " + got + ", due is " + want + ", after:");
            System.out.println(String.join("; ", calls));
        }
    }

    private void play(int run) {
        desk = new VisitBooking();
        plain = new PlainDesk();
        days = new int[] {1, 2, 8, 56}[below(4)];
        slots = 1 + below(4);
        oddness = new int[] {0, 2, 25}[below(3)];
        changesMore = below(3);
        int inmates = below(11);
        int visitors = below(13);
        int rooms = below(7);
        for (int k = 0; k < inmates; k++) {
            addInmate();
        }
        for (int k = 0; k < visitors; k++) {
            addVisitor();
        }
        for (int k = 0; k < rooms; k++) {
            addRoom();
        }
        if (run % 5 == 0) {
            // Only then are 60 visits ever booked.
            for (int level = 0; level < 3; level++) {
                int what = level;
                ask("set", what + ", 9", () -> desk.set(what, 9), () -> plain.set(what, 9));
            }
            ask("set", "3, 12", () -> desk.set(3, 12), () -> plain.set(3, 12));
            days = 56;
        }
        for (int k = calls.size(); k < CALLS && isRight; k++) {
            step();
            if (k % 16 == 0) {
                compare();
            }
        }
        compare();
    }

    private void addInmate() {
        int wing = number(4);
        int level = number(3);
        ask("addInmate", wing + ", " + level, () -> desk.addInmate(wing, level), () -> plain.addInmate(wing, level));
    }

    private void addVisitor() {
        int kind = number(3);
        ask("addVisitor", kind + "", () -> desk.addVisitor(kind), () -> plain.addVisitor(kind));
    }

    private void addRoom() {
        int wing = number(4);
        int seats = number(3) + (below(20) == 0 ? 0 : 1);
        boolean isGlass = below(2) == 0;
        ask("addRoom", wing + ", " + seats + ", " + isGlass, () -> desk.addRoom(wing, seats, isGlass),
                () -> plain.addRoom(wing, seats, isGlass));
    }

    private void step() {
        int which = below(100);
        if (which < 34) {
            book();
        } else if (which < 44) {
            visits();
        } else if (which < 56) {
            changes();
        } else if (which < 66) {
            bans();
        } else if (which < 74) {
            wish();
        } else if (which < 84) {
            texts();
        } else if (which < 90 && changesMore > 0) {
            takeBack();
        } else if (which < 92) {
            settings();
        } else {
            numbers();
        }
    }

    private void book() {
        int inmate = number(plain.account(5));
        int visitors = party();
        int day = day();
        int slot = number(slots);
        String arguments = inmate + ", " + visitors + ", " + day + ", " + slot;
        ask("refusal", arguments, () -> desk.refusal(inmate, visitors, day, slot),
                () -> plain.refusal(inmate, visitors, day, slot));
        ask("book", arguments, () -> desk.book(inmate, visitors, day, slot),
                () -> plain.book(inmate, visitors, day, slot));
    }

    private void visits() {
        int which = below(8);
        if (which < 3) {
            int visit = number(plain.account(1));
            ask("cancel", visit + "", () -> desk.cancel(visit), () -> plain.cancel(visit));
        } else if (which < 6) {
            int inmate = number(plain.account(5));
            int visitors = party();
            ask("firstFree", inmate + ", " + visitors, () -> desk.firstFree(inmate, visitors),
                    () -> plain.firstFree(inmate, visitors));
        } else if (below(4) == 0 || days < 56) {
            int passed = below(10) == 0 ? number(21) : 1 + below(1 + changesMore);
            ask("pass", passed + "", () -> desk.pass(passed), () -> plain.pass(passed));
        }
    }

    private void changes() {
        int inmate = number(plain.account(5));
        boolean isYes = below(3) == 0;
        switch (below(8)) {
            case 0, 1, 2 -> {
                int room = number(plain.account(7));
                ask("setOpen", room + ", " + !isYes, () -> desk.setOpen(room, !isYes),
                        () -> plain.setOpen(room, !isYes));
            }
            case 3, 4 -> {
                int wing = number(4);
                ask("move", inmate + ", " + wing, () -> desk.move(inmate, wing), () -> plain.move(inmate, wing));
            }
            case 5, 6 -> ask("confine", inmate + ", " + isYes, () -> desk.confine(inmate, isYes),
                    () -> plain.confine(inmate, isYes));
            default -> {
                int level = number(3);
                ask("setLevel", inmate + ", " + level, () -> desk.setLevel(inmate, level),
                        () -> plain.setLevel(inmate, level));
            }
        }
    }

    private void bans() {
        if (below(2) == 0) {
            int ban = number(plain.account(8));
            ask("lift", ban + "", () -> desk.lift(ban), () -> plain.lift(ban));
            return;
        }
        int kind = below(2) == 0 ? 2 : number(3);
        int inmate = number(plain.account(5));
        int other = number(kind == 0 ? plain.account(6) : kind == 1 ? 3 : plain.account(5));
        int first = day();
        int last = below(20) == 0 ? day() : Math.min(55, first + below(days));
        ask("ban", kind + ", " + inmate + ", " + other + ", " + first + ", " + last,
                () -> desk.ban(kind, inmate, other, first, last), () -> plain.ban(kind, inmate, other, first, last));
    }

    private void wish() {
        int inmate = number(plain.account(5));
        int visitors = party();
        int first = day();
        int last = below(20) == 0 ? day() : Math.min(55, Math.max(first, plain.account(0)) + below(days));
        ask("wish", inmate + ", " + visitors + ", " + first + ", " + last,
                () -> desk.wish(inmate, visitors, first, last), () -> plain.wish(inmate, visitors, first, last));
    }

    private void settings() {
        switch (below(6)) {
            case 0 -> addInmate();
            case 1 -> addVisitor();
            case 2 -> addRoom();
            default -> {
                int what = number(4);
                int value = number(what == 3 ? 13 : 10);
                ask("set", what + ", " + value, () -> desk.set(what, value), () -> plain.set(what, value));
            }
        }
    }

    private void takeBack() {
        int which = below(12);
        if (which < 8) {
            ask("undo", "", () -> desk.undo(), () -> plain.undo());
        } else if (which < 10) {
            ask("save", "", () -> desk.save(), () -> plain.save());
        } else {
            ask("restore", "", () -> desk.restore(), () -> plain.restore());
        }
    }

    private String command() {
        StringBuilder text = new StringBuilder();
        switch (below(4)) {
            case 0 -> text.append('x').append(below(1 + plain.account(1)) % 100);
            case 1 -> text.append('m').append(below(Math.max(1, plain.account(5)))).append('/').append(below(4));
            default -> {
                text.append('b').append(below(Math.max(1, plain.account(5)))).append(':');
                int visitors = 1 + below(3);
                for (int k = 0; k < visitors; k++) {
                    char letter = (char) ('a' + below(Math.max(1, plain.account(6))));
                    if (text.indexOf(String.valueOf(letter), 3) < 0 || below(10) < oddness) {
                        text.append(letter);
                    }
                }
                text.append('@').append(plain.account(0) + below(days)).append('.').append(below(slots));
            }
        }
        return text.toString();
    }

    private void texts() {
        StringBuilder text = new StringBuilder(command());
        for (int more = below(4); more > 0; more--) {
            text.append(';').append(command());
        }
        if (below(4) == 0) {
            String signs = "bxm;:@./09acl n" + (char) 233 + (char) 0 + (char) 8364;
            int place = below(text.length() + 1);
            switch (below(3)) {
                case 0 -> text.setLength(place);
                case 1 -> text.insert(place, signs.charAt(below(signs.length())));
                default -> text.insert(place, text.charAt(below(text.length())));
            }
        }
        for (int place = 0; place < text.length(); place++) {
            char letter = text.charAt(place);
            ask("feed", "" + (int) letter, () -> desk.feed(letter), () -> plain.feed(letter));
            calls.remove(calls.size() - 1);
            pending += letter;
        }
        if (below(8) > 0) {
            ask("perform", pending, () -> desk.perform(), () -> plain.perform());
            pending = "";
        }
    }

    private void numbers() {
        int week = number(8);
        ask("use", week + "", () -> desk.use(week), () -> plain.use(week));
        ask("meanDistance", "", () -> desk.meanDistance(), () -> plain.meanDistance());
        int one = number(12);
        int two = number(8);
        boolean isYes = below(2) == 0;
        String both = one + ", " + two;
        ask("inmate", both, () -> desk.inmate(one, two), () -> plain.inmate(one, two));
        ask("room", both, () -> desk.room(one, two), () -> plain.room(one, two));
        ask("visit", both, () -> desk.visit(one, two), () -> plain.visit(one, two));
        ask("banned", both, () -> desk.banned(one, two), () -> plain.banned(one, two));
        ask("wished", both, () -> desk.wished(one, two), () -> plain.wished(one, two));
        ask("ordered", both, () -> desk.ordered(one, two), () -> plain.ordered(one, two));
        ask("notice", one + ", " + isYes, () -> desk.notice(one, isYes), () -> plain.notice(one, isYes));
        ask("report", two + ", " + isYes, () -> desk.report(two, isYes), () -> plain.report(two, isYes));
        ask("account", one + "", () -> desk.account(one), () -> plain.account(one));
        ask("next", one + "", () -> desk.next(one), () -> plain.next(one));
        ask("slot", both, () -> desk.slot(one, two, isYes), () -> plain.slot(one, two, isYes));
    }

    /** All that the readers tell. */
    private void compare() {
        int mark = calls.size();
        for (int what = 0; what < 13; what++) {
            int account = what;
            ask("account", what + "", () -> desk.account(account), () -> plain.account(account));
        }
        for (int one = 0; one < 61; one++) {
            int visit = one;
            ask("next", one + "", () -> desk.next(visit), () -> plain.next(visit));
            if (one >= plain.account(1)) {
                continue;
            }
            for (int two = 0; two < 8; two++) {
                int what = two;
                ask("visit", one + ", " + two, () -> desk.visit(visit, what), () -> plain.visit(visit, what));
            }
        }
        for (int one = 0; one < 21; one++) {
            for (int two = 0; two < 7; two++) {
                rows(one, two);
            }
        }
        while (calls.size() > mark && isRight) {
            calls.remove(calls.size() - 1);
        }
    }

    private void rows(int one, int two) {
        String both = one + ", " + two;
        boolean isYes = two % 2 == 0;
        if (two < 2) {
            ask("notice", one + ", " + isYes, () -> desk.notice(one, isYes), () -> plain.notice(one, isYes));
        }
        if (one < 4 && two < 2) {
            ask("report", one + ", " + isYes, () -> desk.report(one, isYes), () -> plain.report(one, isYes));
        }
        if (one < 11) {
            ask("inmate", both, () -> desk.inmate(one, two), () -> plain.inmate(one, two));
            ask("room", both, () -> desk.room(one, two), () -> plain.room(one, two));
            ask("banned", both, () -> desk.banned(one, two), () -> plain.banned(one, two));
            ask("wished", both, () -> desk.wished(one, two), () -> plain.wished(one, two));
            ask("ordered", both, () -> desk.ordered(one, two), () -> plain.ordered(one, two));
        }
        int day = Math.min(55, plain.account(0) + one);
        ask("slot", day + ", " + two, () -> desk.slot(day, two, isYes), () -> plain.slot(day, two, isYes));
        ask("slot", day + ", " + two, () -> desk.slot(day, two, !isYes), () -> plain.slot(day, two, !isYes));
        ask("use", two + "", () -> desk.use(two), () -> plain.use(two));
    }
}
