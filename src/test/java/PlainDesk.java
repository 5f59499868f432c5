import java.util.ArrayList;
import java.util.Collections;
import java.util.Comparator;
import java.util.List;
import java.util.NoSuchElementException;
import java.util.TreeSet;

/**
 * The document once more, written another way: lists of objects, exceptions for what is refused, and whole
 * copies. RandomRunsTest asks it and VisitBooking the same calls.
 */
final class PlainDesk {
    private static final class Inmate {
        int wing;
        int level;
        boolean confined;
    }

    private static final class Room {
        int number;
        int wing;
        int seats;
        boolean glass;
        boolean open = true;
    }

    private static final class Visit {
        int number;
        int inmate;
        TreeSet<Integer> visitors;
        int day;
        int slot;
        int room;
        int status;
    }

    private record Ban(int kind, int inmate, int other, int first, int last) {
        boolean holds(int day) {
            return first <= day && day <= last;
        }
    }

    private record Wish(int inmate, TreeSet<Integer> visitors, int first, int last) {
    }

    private record Notice(int visit, int kind) {
    }

    private static final class Refused extends RuntimeException {
        private static final long serialVersionUID = 1L;
        final int reason;
        final int detail;

        Refused(int reason, int detail) {
            this.reason = reason;
            this.detail = detail;
        }
    }

    private static final class Book {
        int today;
        int[] quotas = {1, 2, 3};
        int places = 4;
        List<Inmate> inmates = new ArrayList<>();
        List<Integer> kinds = new ArrayList<>();
        List<Room> rooms = new ArrayList<>();
        List<Visit> visits = new ArrayList<>();
        List<Ban> bans = new ArrayList<>();
        List<Wish> wishes = new ArrayList<>();
        List<Notice> notices = new ArrayList<>();

        Book copy() {
            Book b = new Book();
            b.today = today;
            b.quotas = quotas.clone();
            b.places = places;
            for (Inmate i : inmates) {
                Inmate c = new Inmate();
                c.wing = i.wing;
                c.level = i.level;
                c.confined = i.confined;
                b.inmates.add(c);
            }
            b.kinds.addAll(kinds);
            for (Room r : rooms) {
                Room c = new Room();
                c.number = r.number;
                c.wing = r.wing;
                c.seats = r.seats;
                c.glass = r.glass;
                c.open = r.open;
                b.rooms.add(c);
            }
            for (Visit v : visits) {
                Visit c = new Visit();
                c.number = v.number;
                c.inmate = v.inmate;
                c.visitors = v.visitors;
                c.day = v.day;
                c.slot = v.slot;
                c.room = v.room;
                c.status = v.status;
                b.visits.add(c);
            }
            b.bans.addAll(bans);
            b.wishes.addAll(wishes);
            b.notices.addAll(notices);
            return b;
        }
    }

    private Book now = new Book();
    private Book saved = null;
    private final List<Book> changes = new ArrayList<>();
    private List<int[]> report = null;
    private String buffer = "";

    // ---- what is wrong with arguments

    private static void range(int value, int least, int most) {
        if (value < least || value > most) {
            throw new IllegalArgumentException();
        }
    }

    private static void exists(int number, int count) {
        if (number < 0 || number >= count) {
            throw new IndexOutOfBoundsException();
        }
    }

    private static void element(int number, int count) {
        if (number < 0 || number >= count) {
            throw new NoSuchElementException();
        }
    }

    private static void days(int first, int last) {
        range(first, 0, 55);
        range(last, 0, 55);
        if (first > last) {
            throw new IllegalArgumentException();
        }
    }

    private TreeSet<Integer> party(int set) {
        TreeSet<Integer> party = new TreeSet<>();
        for (int k = 0; k < 32; k++) {
            if ((set & (1 << k)) != 0) {
                if (k >= now.kinds.size()) {
                    throw new IllegalArgumentException();
                }
                party.add(k);
            }
        }
        range(party.size(), 1, 3);
        return party;
    }

    private static int mask(TreeSet<Integer> set) {
        int mask = 0;
        for (int k : set) {
            mask += 1 << k;
        }
        return mask;
    }

    private void change() {
        changes.add(now.copy());
        if (changes.size() > 8) {
            changes.remove(0);
        }
    }

    // ---- inmates, visitors, rooms, settings

    int addInmate(int wing, int level) {
        range(wing, 0, 3);
        range(level, 0, 2);
        if (now.inmates.size() == 10) {
            throw new IllegalStateException();
        }
        change();
        Inmate i = new Inmate();
        i.wing = wing;
        i.level = level;
        now.inmates.add(i);
        return now.inmates.size() - 1;
    }

    int addVisitor(int kind) {
        range(kind, 0, 2);
        if (now.kinds.size() == 12) {
            throw new IllegalStateException();
        }
        change();
        now.kinds.add(kind);
        return now.kinds.size() - 1;
    }

    int addRoom(int wing, int seats, boolean isGlass) {
        range(wing, 0, 3);
        range(seats, 1, 3);
        if (now.rooms.size() == 6) {
            throw new IllegalStateException();
        }
        change();
        Room r = new Room();
        r.number = now.rooms.size();
        r.wing = wing;
        r.seats = seats;
        r.glass = isGlass;
        now.rooms.add(r);
        return r.number;
    }

    int setOpen(int room, boolean isOpen) {
        exists(room, now.rooms.size());
        change();
        Room r = now.rooms.get(room);
        boolean was = r.open;
        r.open = isOpen;
        if (isOpen) {
            return was ? 0 : lookAtWishes();
        }
        List<Visit> there = new ArrayList<>();
        for (Visit v : now.visits) {
            if (v.status == 0 && v.room == room) {
                there.add(v);
            }
        }
        return newRooms(there);
    }

    int setLevel(int inmate, int level) {
        exists(inmate, now.inmates.size());
        range(level, 0, 2);
        change();
        int previous = now.inmates.get(inmate).level;
        now.inmates.get(inmate).level = level;
        return previous;
    }

    int move(int inmate, int wing) {
        exists(inmate, now.inmates.size());
        range(wing, 0, 3);
        change();
        return movedNow(inmate, wing);
    }

    private int movedNow(int inmate, int wing) {
        exists(inmate, now.inmates.size());
        range(wing, 0, 3);
        now.inmates.get(inmate).wing = wing;
        return newRooms(bookedOf(inmate));
    }

    int confine(int inmate, boolean isConfined) {
        exists(inmate, now.inmates.size());
        change();
        now.inmates.get(inmate).confined = isConfined;
        return isConfined ? newRooms(bookedOf(inmate)) : 0;
    }

    int set(int what, int value) {
        exists(what, 4);
        range(value, 0, what == 3 ? 12 : 9);
        change();
        int previous;
        if (what == 3) {
            previous = now.places;
            now.places = value;
        } else {
            previous = now.quotas[what];
            now.quotas[what] = value;
        }
        return previous;
    }

    int inmate(int inmate, int what) {
        exists(inmate, now.inmates.size());
        range(what, 0, 4);
        Inmate i = now.inmates.get(inmate);
        int[] all = {i.wing, i.level, i.confined ? 1 : 0, bookedOf(inmate).size(), counted(inmate, now.today / 7)};
        return all[what];
    }

    int room(int room, int what) {
        exists(room, now.rooms.size());
        range(what, 0, 4);
        Room r = now.rooms.get(room);
        int there = 0;
        for (Visit v : now.visits) {
            if (v.status == 0 && v.room == room) {
                there++;
            }
        }
        int[] all = {r.wing, r.seats, r.glass ? 1 : 0, r.open ? 1 : 0, there};
        return all[what];
    }

    int ordered(int inmate, int place) {
        exists(inmate, now.inmates.size());
        element(place, now.rooms.size());
        return inOrder(inmate).get(place).number;
    }

    private List<Room> inOrder(int inmate) {
        int wing = now.inmates.get(inmate).wing;
        List<Room> order = new ArrayList<>(now.rooms);
        order.sort(Comparator.comparingInt((Room r) -> Math.abs(r.wing - wing))
                .thenComparingInt(r -> r.seats).thenComparingInt(r -> r.number));
        return order;
    }

    // ---- visits

    private List<Visit> bookedOf(int inmate) {
        List<Visit> found = new ArrayList<>();
        for (Visit v : now.visits) {
            if (v.status == 0 && v.inmate == inmate) {
                found.add(v);
            }
        }
        return found;
    }

    private List<Visit> bookedIn(int day, int slot) {
        List<Visit> found = new ArrayList<>();
        for (Visit v : now.visits) {
            if (v.status == 0 && v.day == day && v.slot == slot) {
                found.add(v);
            }
        }
        return found;
    }

    private boolean isForQuota(TreeSet<Integer> visitors) {
        for (int k : visitors) {
            if (now.kinds.get(k) != 2) {
                return true;
            }
        }
        return false;
    }

    private int counted(int inmate, int week) {
        int count = 0;
        for (Visit v : now.visits) {
            if (v.inmate == inmate && v.status < 2 && v.day >= 7 * week && v.day <= 7 * week + 6
                    && isForQuota(v.visitors)) {
                count++;
            }
        }
        return count;
    }

    private int searches(Visit v) {
        return v.status == 2 || now.rooms.get(v.room).glass ? 0 : v.visitors.size();
    }

    private int left(int day, int slot) {
        int left = now.places;
        for (Visit v : bookedIn(day, slot)) {
            left -= searches(v);
        }
        return left;
    }

    private boolean breaks(Ban b, int inmate, TreeSet<Integer> visitors, int day) {
        if (!b.holds(day) || b.inmate() != inmate) {
            return false;
        }
        switch (b.kind()) {
            case 0:
                return visitors.contains(b.other());
            case 1:
                for (int k : visitors) {
                    if (now.kinds.get(k) == b.other()) {
                        return true;
                    }
                }
                return false;
            default:
                return false;
        }
    }

    private boolean isPossible(Room r, int inmate, int size, int day, int slot) {
        if (!r.open || r.seats < size || now.inmates.get(inmate).confined && !r.glass) {
            return false;
        }
        for (Visit v : bookedIn(day, slot)) {
            if (v.room == r.number) {
                return false;
            }
            for (Ban b : now.bans) {
                boolean isTheirs = b.inmate() == inmate && b.other() == v.inmate
                        || b.other() == inmate && b.inmate() == v.inmate;
                if (b.kind() == 2 && b.holds(day) && isTheirs
                        && Math.abs(now.rooms.get(v.room).wing - r.wing) < 2) {
                    return false;
                }
            }
        }
        return true;
    }

    /** The room that a visit gets, -6 if none is possible, -7 if none can be had. */
    private int roomFor(int inmate, int size, int day, int slot) {
        int answer = -6;
        for (Room r : inOrder(inmate)) {
            if (isPossible(r, inmate, size, day, slot)) {
                if (r.glass || left(day, slot) >= size) {
                    return r.number;
                }
                answer = -7;
            }
        }
        return answer;
    }

    private int free(int day, int slot) {
        int free = 0;
        for (Room r : now.rooms) {
            boolean isTaken = false;
            for (Visit v : bookedIn(day, slot)) {
                isTaken |= v.room == r.number;
            }
            if (r.open && !isTaken) {
                free++;
            }
        }
        return free;
    }

    /** The room for a booking, or Refused. */
    private int judged(int inmate, TreeSet<Integer> visitors, int day, int slot) {
        if (day < now.today) {
            throw new Refused(1, now.today);
        }
        for (int b = 0; b < now.bans.size(); b++) {
            if (breaks(now.bans.get(b), inmate, visitors, day)) {
                throw new Refused(2, b);
            }
        }
        int quota = now.quotas[now.inmates.get(inmate).level];
        if (isForQuota(visitors) && counted(inmate, day / 7) >= quota) {
            throw new Refused(3, quota);
        }
        for (Visit v : bookedIn(day, slot)) {
            if (v.inmate == inmate) {
                throw new Refused(4, v.number);
            }
        }
        for (int k : visitors) {
            for (Visit v : bookedIn(day, slot)) {
                if (v.visitors.contains(k)) {
                    throw new Refused(5, k);
                }
            }
        }
        int room = roomFor(inmate, visitors.size(), day, slot);
        if (room == -6) {
            throw new Refused(6, free(day, slot));
        }
        if (room == -7) {
            throw new Refused(7, left(day, slot));
        }
        if (now.visits.size() == 60) {
            throw new Refused(8, 60);
        }
        return room;
    }

    private int bookedNow(int inmate, TreeSet<Integer> visitors, int day, int slot) {
        int room = judged(inmate, visitors, day, slot);
        Visit v = new Visit();
        v.number = now.visits.size();
        v.inmate = inmate;
        v.visitors = visitors;
        v.day = day;
        v.slot = slot;
        v.room = room;
        now.visits.add(v);
        return v.number;
    }

    int book(int inmate, int visitors, int day, int slot) {
        exists(inmate, now.inmates.size());
        TreeSet<Integer> party = party(visitors);
        range(day, 0, 55);
        range(slot, 0, 3);
        Book before = now.copy();
        try {
            int number = bookedNow(inmate, party, day, slot);
            changes.add(before);
            if (changes.size() > 8) {
                changes.remove(0);
            }
            return number;
        } catch (Refused r) {
            report = new ArrayList<>();
            report.add(new int[] {inmate, day * 4 + slot});
            report.add(new int[] {r.reason, r.detail});
            throw new UnsupportedOperationException();
        }
    }

    int cancel(int visit) {
        exists(visit, now.visits.size());
        if (now.visits.get(visit).status != 0) {
            throw new IllegalStateException();
        }
        change();
        return cancelledNow(visit);
    }

    private int cancelledNow(int visit) {
        exists(visit, now.visits.size());
        if (now.visits.get(visit).status != 0) {
            throw new IllegalStateException();
        }
        now.visits.get(visit).status = 2;
        return lookAtWishes();
    }

    int refusal(int inmate, int visitors, int day, int slot) {
        exists(inmate, now.inmates.size());
        TreeSet<Integer> party = party(visitors);
        range(day, 0, 55);
        range(slot, 0, 3);
        try {
            judged(inmate, party, day, slot);
            return 0;
        } catch (Refused r) {
            return r.reason;
        }
    }

    int firstFree(int inmate, int visitors) {
        exists(inmate, now.inmates.size());
        party(visitors);
        for (int moment = now.today * 4; moment < 224; moment++) {
            if (refusal(inmate, visitors, moment / 4, moment % 4) == 0) {
                return moment;
            }
        }
        throw new NoSuchElementException();
    }

    int visit(int visit, int what) {
        exists(visit, now.visits.size());
        range(what, 0, 7);
        Visit v = now.visits.get(visit);
        int[] all = {v.inmate, mask(v.visitors), v.day, v.slot, v.room, v.status, searches(v),
            isForQuota(v.visitors) ? 1 : 0};
        return all[what];
    }

    private static final Comparator<Visit> BY_TIME = Comparator.comparingInt((Visit v) -> v.day)
            .thenComparingInt(v -> v.slot).thenComparingInt(v -> v.room);

    private List<Visit> booked() {
        List<Visit> all = new ArrayList<>();
        for (Visit v : now.visits) {
            if (v.status == 0) {
                all.add(v);
            }
        }
        Collections.sort(all, BY_TIME);
        return all;
    }

    int next(int place) {
        element(place, booked().size());
        return booked().get(place).number;
    }

    int slot(int day, int slot, boolean isSearches) {
        range(day, 0, 55);
        range(slot, 0, 3);
        if (isSearches) {
            return left(day, slot);
        }
        TreeSet<Integer> rooms = new TreeSet<>();
        for (Visit v : bookedIn(day, slot)) {
            rooms.add(v.room);
        }
        return mask(rooms);
    }

    int pass(int days) {
        range(days, 1, 20);
        if (now.today + days > 55) {
            throw new IllegalStateException();
        }
        change();
        now.today += days;
        int held = 0;
        for (Visit v : now.visits) {
            if (v.status == 0 && v.day < now.today) {
                v.status = 1;
                held++;
            }
        }
        now.wishes.removeIf(w -> w.last() < now.today);
        return held;
    }

    private void tell(int visit, int kind) {
        now.notices.add(new Notice(visit, kind));
        if (now.notices.size() > 20) {
            now.notices.remove(0);
        }
    }

    private int newRooms(List<Visit> visits) {
        int told = 0;
        Collections.sort(visits, BY_TIME);
        for (Visit v : visits) {
            v.status = 2;
            int room = roomFor(v.inmate, v.visitors.size(), v.day, v.slot);
            if (room < 0) {
                tell(v.number, 2);
                told++;
                continue;
            }
            v.status = 0;
            if (room != v.room) {
                v.room = room;
                tell(v.number, 0);
                told++;
            }
        }
        return told;
    }

    // ---- bans

    int ban(int kind, int inmate, int other, int first, int last) {
        exists(inmate, now.inmates.size());
        range(kind, 0, 2);
        exists(other, kind == 0 ? now.kinds.size() : kind == 1 ? 3 : now.inmates.size());
        if (kind == 2 && inmate == other) {
            throw new IllegalArgumentException();
        }
        days(first, last);
        if (now.bans.size() == 10) {
            throw new IllegalStateException();
        }
        change();
        Ban b = new Ban(kind, inmate, other, first, last);
        now.bans.add(b);
        return kind == 2 ? parted(b) : dropped(b);
    }

    private int dropped(Ban b) {
        int count = 0;
        for (Visit v : now.visits) {
            if (v.status == 0 && breaks(b, v.inmate, v.visitors, v.day)) {
                v.status = 2;
                tell(v.number, 1);
                count++;
            }
        }
        return count;
    }

    private int parted(Ban b) {
        int count = 0;
        for (int moment = b.first() * 4; moment < b.last() * 4 + 4; moment++) {
            Visit one = null;
            Visit two = null;
            for (Visit v : bookedIn(moment / 4, moment % 4)) {
                one = v.inmate == b.inmate() ? v : one;
                two = v.inmate == b.other() ? v : two;
            }
            if (one != null && two != null
                    && Math.abs(now.rooms.get(one.room).wing - now.rooms.get(two.room).wing) < 2) {
                Visit later = one.number > two.number ? one : two;
                later.status = 2;
                tell(later.number, 1);
                count++;
            }
        }
        return count;
    }

    int lift(int ban) {
        exists(ban, now.bans.size());
        change();
        now.bans.remove(ban);
        return lookAtWishes();
    }

    int banned(int ban, int what) {
        exists(ban, now.bans.size());
        range(what, 0, 4);
        Ban b = now.bans.get(ban);
        return new int[] {b.kind(), b.inmate(), b.other(), b.first(), b.last()}[what];
    }

    // ---- wishes, notices, reports

    int wish(int inmate, int visitors, int first, int last) {
        exists(inmate, now.inmates.size());
        TreeSet<Integer> party = party(visitors);
        days(first, last);
        if (last < now.today) {
            throw new IllegalArgumentException();
        }
        if (now.wishes.size() == 6) {
            throw new IllegalStateException();
        }
        change();
        now.wishes.add(new Wish(inmate, party, first, last));
        return now.wishes.size();
    }

    private int lookAtWishes() {
        int count = 0;
        for (Wish w : new ArrayList<>(now.wishes)) {
            int visit = granted(w);
            if (visit >= 0) {
                tell(visit, 3);
                now.wishes.removeIf(other -> other == w);
                count++;
            }
        }
        return count;
    }

    private int granted(Wish w) {
        for (int moment = w.first() * 4; moment < w.last() * 4 + 4; moment++) {
            try {
                return bookedNow(w.inmate(), w.visitors(), moment / 4, moment % 4);
            } catch (Refused r) {
                continue;
            }
        }
        return -1;
    }

    int wished(int wish, int what) {
        exists(wish, now.wishes.size());
        range(what, 0, 3);
        Wish w = now.wishes.get(wish);
        return new int[] {w.inmate(), mask(w.visitors()), w.first(), w.last()}[what];
    }

    int notice(int notice, boolean isKind) {
        element(notice, now.notices.size());
        Notice n = now.notices.get(notice);
        return isKind ? n.kind() : n.visit();
    }

    int report(int level, boolean isDetail) {
        element(level, report == null ? 0 : report.size());
        return report.get(level)[isDetail ? 1 : 0];
    }

    // ---- accounts

    private int status(int status) {
        int count = 0;
        for (Visit v : now.visits) {
            if (v.status == status) {
                count++;
            }
        }
        return count;
    }

    int account(int what) {
        range(what, 0, 12);
        int places = 0;
        int distances = 0;
        for (Visit v : booked()) {
            places += searches(v);
            distances += Math.abs(now.rooms.get(v.room).wing - now.inmates.get(v.inmate).wing);
        }
        int[] all = {now.today, now.visits.size(), status(0), status(1), status(2), now.inmates.size(),
            now.kinds.size(), now.rooms.size(), now.bans.size(), now.wishes.size(), now.notices.size(), places,
            distances};
        return all[what];
    }

    double meanDistance() {
        if (account(2) == 0) {
            throw new ArithmeticException();
        }
        return (double) account(12) / (double) account(2);
    }

    float use(int week) {
        range(week, 0, 7);
        int count = 0;
        int sum = 0;
        for (int i = 0; i < now.inmates.size(); i++) {
            count += counted(i, week);
            sum += now.quotas[now.inmates.get(i).level];
        }
        if (sum == 0) {
            throw new ArithmeticException();
        }
        return (float) count / (float) sum;
    }

    // ---- commands, undo and snapshots

    int feed(char letter) {
        if (buffer.length() == 80) {
            throw new IllegalStateException();
        }
        buffer += letter;
        return buffer.length();
    }

    /** The offset of the first character that no right text has there, by an automaton; -1 for a right text. */
    static int error(String text) {
        String state = "start";
        String letters = "";
        for (int p = 0; p < text.length(); p++) {
            char c = text.charAt(p);
            boolean isDigit = c >= '0' && c <= '9';
            String after = null;
            switch (state) {
                case "start" -> after = c == 'b' ? "b" : c == 'x' ? "x" : c == 'm' ? "m" : null;
                case "b" -> after = isDigit ? "b9" : null;
                case "b9" -> after = c == ':' ? "letter" : null;
                case "letter", "letters" -> {
                    if (c >= 'a' && c <= 'l' && letters.indexOf(c) < 0 && letters.length() < 3) {
                        letters += c;
                        after = "letters";
                    } else if (c == '@' && state.equals("letters")) {
                        letters = "";
                        after = "day";
                    }
                }
                case "day" -> after = isDigit ? "day9" : null;
                case "day9" -> after = isDigit ? "day99" : c == '.' ? "slot" : null;
                case "day99" -> after = c == '.' ? "slot" : null;
                case "slot" -> after = isDigit ? "end" : null;
                case "x" -> after = isDigit ? "x9" : null;
                case "x9" -> after = isDigit ? "end" : c == ';' ? "start" : null;
                case "m" -> after = isDigit ? "m9" : null;
                case "m9" -> after = c == '/' ? "wing" : null;
                case "wing" -> after = isDigit ? "end" : null;
                default -> after = c == ';' ? "start" : null;
            }
            if (after == null) {
                return p;
            }
            state = after;
        }
        return state.equals("end") || state.equals("x9") ? -1 : text.length();
    }

    int perform() {
        String text = buffer;
        buffer = "";
        int error = error(text);
        if (error >= 0) {
            return -100 - error;
        }
        Book before = now.copy();
        String[] commands = text.split(";");
        for (int c = 0; c < commands.length; c++) {
            try {
                carryOut(commands[c]);
            } catch (Refused r) {
                now = before;
                int[] cause = {r.reason, r.detail};
                report = new ArrayList<>();
                report.add(new int[] {99, c});
                report.add(top(commands[c]));
                report.add(cause);
                throw new UnsupportedOperationException();
            } catch (IndexOutOfBoundsException | IllegalArgumentException | IllegalStateException e) {
                now = before;
                throw new UnsupportedOperationException();
            }
        }
        changes.add(before);
        if (changes.size() > 8) {
            changes.remove(0);
        }
        return commands.length;
    }

    private static int[] top(String command) {
        String[] parts = command.split("[:@.]");
        return new int[] {command.charAt(1) - '0', Integer.parseInt(parts[2]) * 4 + Integer.parseInt(parts[3])};
    }

    private void carryOut(String command) {
        if (command.startsWith("x")) {
            cancelledNow(Integer.parseInt(command.substring(1)));
        } else if (command.startsWith("m")) {
            movedNow(command.charAt(1) - '0', command.charAt(3) - '0');
        } else {
            String[] parts = command.split("[:@.]");
            int visitors = 0;
            for (char c : parts[1].toCharArray()) {
                visitors += 1 << (c - 'a');
            }
            int inmate = command.charAt(1) - '0';
            int day = Integer.parseInt(parts[2]);
            int slot = Integer.parseInt(parts[3]);
            exists(inmate, now.inmates.size());
            TreeSet<Integer> party = party(visitors);
            range(day, 0, 55);
            range(slot, 0, 3);
            bookedNow(inmate, party, day, slot);
        }
    }

    int undo() {
        if (changes.isEmpty()) {
            throw new IllegalStateException();
        }
        now = changes.remove(changes.size() - 1);
        return changes.size();
    }

    int save() {
        saved = now.copy();
        return account(2);
    }

    int restore() {
        if (saved == null) {
            throw new IllegalStateException();
        }
        now = saved.copy();
        changes.clear();
        return account(2);
    }
}
