import java.util.Arrays;
import java.util.NoSuchElementException;

/** A booking desk for visits in a prison; the document DOC.md has its promises. */
public final class VisitBooking {
    private static final int NONE = -1;

    private static final int MAX_INMATES = 10;
    private static final int MAX_VISITORS = 12;
    private static final int MAX_ROOMS = 6;
    private static final int MAX_VISITS = 60;
    private static final int MAX_BANS = 10;
    private static final int MAX_WISHES = 6;
    private static final int MAX_NOTICES = 20;
    private static final int MAX_CHANGES = 8;
    private static final int MAX_LEVELS_OF_REPORT = 3;
    private static final int MAX_LETTERS = 80;
    // The shortest commands have two characters, and a sign between each two of them.
    private static final int MAX_COMMANDS = 27;

    private static final int DAYS = 56;
    private static final int SLOTS = 4;
    private static final int DAYS_OF_WEEK = 7;
    private static final int WEEKS = 8;
    private static final int MOST_DAYS_AT_ONCE = 20;
    private static final int WINGS = 4;
    private static final int LEVELS = 3;
    private static final int KINDS_OF_VISITORS = 3;
    private static final int KINDS_OF_BANS = 3;
    private static final int MOST_SEATS = 3;
    private static final int MOST_VISITORS_AT_ONCE = 3;
    private static final int SETTINGS = 4;
    private static final int SETTING_OF_PLACES = 3;
    private static final int HIGHEST_QUOTA = 9;
    private static final int MOST_PLACES = 12;
    private static final int LAWYER = 2;

    // The places in the rows of tables; where the document numbers them, they are its numbers.
    private static final int INMATE_WING = 0;
    private static final int INMATE_LEVEL = 1;
    private static final int INMATE_CONFINED = 2;
    private static final int INMATE_WIDTH = 3;
    private static final int INMATE_BOOKED = 3;
    private static final int INMATE_NUMBERS = 5;

    private static final int VISITOR_KIND = 0;
    private static final int VISITOR_WIDTH = 1;

    private static final int ROOM_WING = 0;
    private static final int ROOM_SEATS = 1;
    private static final int ROOM_GLASS = 2;
    private static final int ROOM_OPEN = 3;
    private static final int ROOM_WIDTH = 4;
    private static final int ROOM_NUMBERS = 5;

    private static final int VISIT_INMATE = 0;
    private static final int VISIT_VISITORS = 1;
    private static final int VISIT_DAY = 2;
    private static final int VISIT_SLOT = 3;
    private static final int VISIT_ROOM = 4;
    private static final int VISIT_STATUS = 5;
    private static final int VISIT_WIDTH = 6;
    private static final int VISIT_SEARCHES = 6;
    private static final int VISIT_NUMBERS = 8;

    private static final int BAN_KIND = 0;
    private static final int BAN_INMATE = 1;
    private static final int BAN_OTHER = 2;
    private static final int BAN_FIRST = 3;
    private static final int BAN_LAST = 4;
    private static final int BAN_WIDTH = 5;

    private static final int WISH_INMATE = 0;
    private static final int WISH_VISITORS = 1;
    private static final int WISH_FIRST = 2;
    private static final int WISH_LAST = 3;
    private static final int WISH_WIDTH = 4;

    private static final int NOTICE_VISIT = 0;
    private static final int NOTICE_KIND = 1;
    private static final int NOTICE_WIDTH = 2;

    private static final int REPORT_FIRST = 0;
    private static final int REPORT_SECOND = 1;
    private static final int REPORT_WIDTH = 2;
    private static final int MARK_OF_COMMAND = 99;

    private static final int COMMAND_SIGN = 0;
    private static final int COMMAND_NUMBER = 1;
    private static final int COMMAND_VISITORS = 2;
    private static final int COMMAND_WING = 2;
    private static final int COMMAND_DAY = 3;
    private static final int COMMAND_SLOT = 4;
    private static final int COMMAND_WIDTH = 5;

    private static final int BOOKED = 0;
    private static final int HELD = 1;
    private static final int CANCELLED = 2;

    private static final int BAN_OF_VISITOR = 0;
    private static final int BAN_OF_KIND = 1;
    private static final int BAN_OF_PAIR = 2;

    private static final int GOT_OTHER_ROOM = 0;
    private static final int CANCELLED_BY_BAN = 1;
    private static final int CANCELLED_FOR_ROOM = 2;
    private static final int BOOKED_FOR_WISH = 3;

    private static final int NOT_REFUSED = 0;
    private static final int DAY_IS_OVER = 1;
    private static final int VISIT_IS_BANNED = 2;
    private static final int QUOTA_IS_REACHED = 3;
    private static final int INMATE_IS_BUSY = 4;
    private static final int VISITOR_IS_BUSY = 5;
    private static final int NO_ROOM_IS_POSSIBLE = 6;
    private static final int NO_ROOM_CAN_BE_HAD = 7;
    private static final int VISITS_ARE_USED_UP = 8;

    // What is wrong with a call: numbers and no exceptions, as commands of a text are asked for it, too.
    private static final int RIGHT = 0;
    private static final int NO_SUCH_NUMBER = 1;
    private static final int OUT_OF_RANGE = 2;
    private static final int NOT_IN_THIS_STATE = 3;

    private static final int SYNTAX_ERROR = -100;

    private final State state;
    private final State saved;
    private boolean isSaved;
    private final History history;
    private final Judge judge;
    private final Desk desk;
    private final Table refused;
    private final Text text;

    public VisitBooking() {
        state = new State();
        saved = new State();
        isSaved = false;
        history = new History();
        judge = new Judge(state);
        desk = new Desk(state, judge);
        refused = new Table(MAX_LEVELS_OF_REPORT, REPORT_WIDTH);
        text = new Text();
    }

    // ---- inmates, visitors, rooms, settings

    public int addInmate(int wing, int level) throws IllegalArgumentException, IllegalStateException {
        if (!isBelow(wing, WINGS) || !isBelow(level, LEVELS)) {
            throw new IllegalArgumentException("the wing or the level is out of range");
        }
        if (state.inmates.isFull()) {
            throw new IllegalStateException("there are 10 inmates");
        }
        history.keep(state);
        int[] row = state.inmates.addRow();
        row[INMATE_WING] = wing;
        row[INMATE_LEVEL] = level;
        row[INMATE_CONFINED] = 0;
        return state.inmates.count - 1;
    }

    public int addVisitor(int kind) throws IllegalArgumentException, IllegalStateException {
        if (!isBelow(kind, KINDS_OF_VISITORS)) {
            throw new IllegalArgumentException("the kind is out of range");
        }
        if (state.visitors.isFull()) {
            throw new IllegalStateException("there are 12 visitors");
        }
        history.keep(state);
        int[] row = state.visitors.addRow();
        row[VISITOR_KIND] = kind;
        return state.visitors.count - 1;
    }

    public int addRoom(int wing, int seats, boolean isGlass)
            throws IllegalArgumentException, IllegalStateException {
        if (!isBelow(wing, WINGS) || seats < 1 || seats > MOST_SEATS) {
            throw new IllegalArgumentException("the wing or the number of seats is out of range");
        }
        if (state.rooms.isFull()) {
            throw new IllegalStateException("there are 6 rooms");
        }
        history.keep(state);
        int[] row = state.rooms.addRow();
        row[ROOM_WING] = wing;
        row[ROOM_SEATS] = seats;
        row[ROOM_GLASS] = isGlass ? 1 : 0;
        row[ROOM_OPEN] = 1;
        return state.rooms.count - 1;
    }

    public int setOpen(int room, boolean isOpen) throws IndexOutOfBoundsException {
        if (!isBelow(room, state.rooms.count)) {
            throw new IndexOutOfBoundsException("there is no such room");
        }
        history.keep(state);
        return isOpen ? desk.openRoom(room) : desk.closeRoom(room);
    }

    public int setLevel(int inmate, int level) throws IndexOutOfBoundsException, IllegalArgumentException {
        if (!isBelow(inmate, state.inmates.count)) {
            throw new IndexOutOfBoundsException("there is no such inmate");
        }
        if (!isBelow(level, LEVELS)) {
            throw new IllegalArgumentException("the level is out of range");
        }
        history.keep(state);
        int[] row = state.inmates.rows[inmate];
        int previous = row[INMATE_LEVEL];
        row[INMATE_LEVEL] = level;
        return previous;
    }

    public int move(int inmate, int wing) throws IndexOutOfBoundsException, IllegalArgumentException {
        throwFor(faultOfMove(inmate, wing));
        history.keep(state);
        return desk.moveInmate(inmate, wing);
    }

    public int confine(int inmate, boolean isConfined) throws IndexOutOfBoundsException {
        if (!isBelow(inmate, state.inmates.count)) {
            throw new IndexOutOfBoundsException("there is no such inmate");
        }
        history.keep(state);
        return desk.confineInmate(inmate, isConfined);
    }

    public int set(int what, int value) throws IndexOutOfBoundsException, IllegalArgumentException {
        if (!isBelow(what, SETTINGS)) {
            throw new IndexOutOfBoundsException("there is no such setting");
        }
        int highest = what == SETTING_OF_PLACES ? MOST_PLACES : HIGHEST_QUOTA;
        if (value < 0 || value > highest) {
            throw new IllegalArgumentException("the number is out of range");
        }
        history.keep(state);
        int previous = state.settings[what];
        state.settings[what] = value;
        return previous;
    }

    public int inmate(int inmate, int what) throws IndexOutOfBoundsException, IllegalArgumentException {
        if (!isBelow(inmate, state.inmates.count)) {
            throw new IndexOutOfBoundsException("there is no such inmate");
        }
        if (!isBelow(what, INMATE_NUMBERS)) {
            throw new IllegalArgumentException("what is out of range");
        }
        if (what < INMATE_WIDTH) {
            return state.inmates.rows[inmate][what];
        }
        if (what == INMATE_BOOKED) {
            return Long.bitCount(state.bookedWith(VISIT_INMATE, inmate));
        }
        return state.countedVisits(inmate, state.today / DAYS_OF_WEEK);
    }

    public int room(int room, int what) throws IndexOutOfBoundsException, IllegalArgumentException {
        if (!isBelow(room, state.rooms.count)) {
            throw new IndexOutOfBoundsException("there is no such room");
        }
        if (!isBelow(what, ROOM_NUMBERS)) {
            throw new IllegalArgumentException("what is out of range");
        }
        if (what < ROOM_WIDTH) {
            return state.rooms.rows[room][what];
        }
        return Long.bitCount(state.bookedWith(VISIT_ROOM, room));
    }

    public int ordered(int inmate, int place) throws IndexOutOfBoundsException, NoSuchElementException {
        if (!isBelow(inmate, state.inmates.count)) {
            throw new IndexOutOfBoundsException("there is no such inmate");
        }
        if (!isBelow(place, state.rooms.count)) {
            throw new NoSuchElementException("there is no such place");
        }
        int left = (1 << state.rooms.count) - 1;
        int room = state.firstRoom(inmate, left);
        for (int passed = 0; passed < place; passed++) {
            left &= ~(1 << room);
            room = state.firstRoom(inmate, left);
        }
        return room;
    }

    // ---- visits

    public int book(int inmate, int visitors, int day, int slot)
            throws IndexOutOfBoundsException, IllegalArgumentException, UnsupportedOperationException {
        throwFor(faultOfBooking(inmate, visitors, day, slot));
        int reason = judge.reasonFor(inmate, visitors, day, slot);
        if (reason != NOT_REFUSED) {
            refused.clear();
            writeReport(inmate, day * SLOTS + slot, reason);
            throw new UnsupportedOperationException("the visit is refused");
        }
        history.keep(state);
        return desk.enterVisit(inmate, visitors, day * SLOTS + slot);
    }

    public int cancel(int visit) throws IndexOutOfBoundsException, IllegalStateException {
        throwFor(faultOfCancelling(visit));
        history.keep(state);
        desk.dropVisit(visit);
        return desk.serveWishes();
    }

    public int refusal(int inmate, int visitors, int day, int slot)
            throws IndexOutOfBoundsException, IllegalArgumentException {
        throwFor(faultOfBooking(inmate, visitors, day, slot));
        return judge.reasonFor(inmate, visitors, day, slot);
    }

    public int firstFree(int inmate, int visitors)
            throws IndexOutOfBoundsException, IllegalArgumentException, NoSuchElementException {
        if (!isBelow(inmate, state.inmates.count)) {
            throw new IndexOutOfBoundsException("there is no such inmate");
        }
        if (!state.isParty(visitors)) {
            throw new IllegalArgumentException("these cannot be the visitors");
        }
        int moment = judge.firstMoment(inmate, visitors, state.today, DAYS - 1);
        if (moment == NONE) {
            throw new NoSuchElementException("there is no such slot");
        }
        return moment;
    }

    public int visit(int visit, int what) throws IndexOutOfBoundsException, IllegalArgumentException {
        if (!isBelow(visit, state.visits.count)) {
            throw new IndexOutOfBoundsException("there is no such visit");
        }
        if (!isBelow(what, VISIT_NUMBERS)) {
            throw new IllegalArgumentException("what is out of range");
        }
        if (what < VISIT_WIDTH) {
            return state.visits.rows[visit][what];
        }
        if (what == VISIT_SEARCHES) {
            return state.searchesOf(visit);
        }
        return state.isForQuota(state.visits.rows[visit][VISIT_VISITORS]) ? 1 : 0;
    }

    public int next(int place) throws NoSuchElementException {
        long left = state.bookedVisits();
        if (!isBelow(place, Long.bitCount(left))) {
            throw new NoSuchElementException("there is no such place");
        }
        int visit = state.earliest(left);
        for (int passed = 0; passed < place; passed++) {
            left &= ~(1L << visit);
            visit = state.earliest(left);
        }
        return visit;
    }

    public int slot(int day, int slot, boolean isSearches) throws IllegalArgumentException {
        if (!isBelow(day, DAYS) || !isBelow(slot, SLOTS)) {
            throw new IllegalArgumentException("the day or the slot is out of range");
        }
        judge.lookAt(day, slot);
        return isSearches ? judge.placesLeft : judge.takenRooms;
    }

    public int pass(int days) throws IllegalArgumentException, IllegalStateException {
        if (days < 1 || days > MOST_DAYS_AT_ONCE) {
            throw new IllegalArgumentException("the number of days is out of range");
        }
        if (state.today + days >= DAYS) {
            throw new IllegalStateException("the days end before that");
        }
        history.keep(state);
        return desk.passDays(days);
    }

    // ---- bans

    public int ban(int kind, int inmate, int other, int first, int last)
            throws IndexOutOfBoundsException, IllegalArgumentException, IllegalStateException {
        throwFor(faultOfBan(kind, inmate, other, first, last));
        history.keep(state);
        int[] row = state.bans.addRow();
        row[BAN_KIND] = kind;
        row[BAN_INMATE] = inmate;
        row[BAN_OTHER] = other;
        row[BAN_FIRST] = first;
        row[BAN_LAST] = last;
        return kind == BAN_OF_PAIR ? desk.partPair(row) : desk.dropBanned(row);
    }

    public int lift(int ban) throws IndexOutOfBoundsException {
        if (!isBelow(ban, state.bans.count)) {
            throw new IndexOutOfBoundsException("there is no such ban");
        }
        history.keep(state);
        state.bans.removeRow(ban);
        return desk.serveWishes();
    }

    public int banned(int ban, int what) throws IndexOutOfBoundsException, IllegalArgumentException {
        if (!isBelow(ban, state.bans.count)) {
            throw new IndexOutOfBoundsException("there is no such ban");
        }
        if (!isBelow(what, BAN_WIDTH)) {
            throw new IllegalArgumentException("what is out of range");
        }
        return state.bans.rows[ban][what];
    }

    // ---- wishes, notices, reports

    public int wish(int inmate, int visitors, int first, int last)
            throws IndexOutOfBoundsException, IllegalArgumentException, IllegalStateException {
        if (!isBelow(inmate, state.inmates.count)) {
            throw new IndexOutOfBoundsException("there is no such inmate");
        }
        if (!state.isParty(visitors) || !areDays(first, last) || last < state.today) {
            throw new IllegalArgumentException("the visitors or the days are out of range");
        }
        if (state.wishes.isFull()) {
            throw new IllegalStateException("there are 6 wishes");
        }
        history.keep(state);
        int[] row = state.wishes.addRow();
        row[WISH_INMATE] = inmate;
        row[WISH_VISITORS] = visitors;
        row[WISH_FIRST] = first;
        row[WISH_LAST] = last;
        return state.wishes.count;
    }

    public int wished(int wish, int what) throws IndexOutOfBoundsException, IllegalArgumentException {
        if (!isBelow(wish, state.wishes.count)) {
            throw new IndexOutOfBoundsException("there is no such wish");
        }
        if (!isBelow(what, WISH_WIDTH)) {
            throw new IllegalArgumentException("what is out of range");
        }
        return state.wishes.rows[wish][what];
    }

    public int notice(int notice, boolean isKind) throws NoSuchElementException {
        if (!isBelow(notice, state.notices.count)) {
            throw new NoSuchElementException("there is no such notice");
        }
        return state.notices.rows[notice][isKind ? NOTICE_KIND : NOTICE_VISIT];
    }

    public int report(int level, boolean isDetail) throws NoSuchElementException {
        if (!isBelow(level, refused.count)) {
            throw new NoSuchElementException("there is no such level");
        }
        return refused.rows[level][isDetail ? REPORT_SECOND : REPORT_FIRST];
    }

    // ---- accounts

    public int account(int what) throws IllegalArgumentException {
        switch (what) {
            case 0:
                return state.today;
            case 1:
                return state.visits.count;
            case 2:
                return state.countStatus(BOOKED);
            case 3:
                return state.countStatus(HELD);
            case 4:
                return state.countStatus(CANCELLED);
            case 5:
                return state.inmates.count;
            case 6:
                return state.visitors.count;
            case 7:
                return state.rooms.count;
            case 8:
                return state.bans.count;
            case 9:
                return state.wishes.count;
            case 10:
                return state.notices.count;
            case 11:
                return state.sumOfSearches();
            case 12:
                return state.sumOfDistances();
            default:
                throw new IllegalArgumentException("there is no such account");
        }
    }

    public double meanDistance() throws ArithmeticException {
        int visits = state.countStatus(BOOKED);
        if (visits == 0) {
            throw new ArithmeticException("no visits are booked");
        }
        return (double) state.sumOfDistances() / (double) visits;
    }

    public float use(int week) throws IllegalArgumentException, ArithmeticException {
        if (!isBelow(week, WEEKS)) {
            throw new IllegalArgumentException("the week is out of range");
        }
        int counted = 0;
        int quotas = 0;
        for (int inmate = 0; inmate < state.inmates.count; inmate++) {
            counted += state.countedVisits(inmate, week);
            quotas += state.quotaOf(inmate);
        }
        if (quotas == 0) {
            throw new ArithmeticException("the sum of the quotas is 0");
        }
        return (float) counted / (float) quotas;
    }

    // ---- commands, undo and snapshots

    public int feed(char letter) throws IllegalStateException {
        if (text.isFull()) {
            throw new IllegalStateException("the buffer holds 80 characters");
        }
        return text.append(letter);
    }

    public int perform() throws UnsupportedOperationException {
        int error = text.findError();
        text.empty();
        if (error != NONE) {
            return SYNTAX_ERROR - error;
        }
        history.draft(state);
        int count = text.commands.count;
        for (int command = 0; command < count; command++) {
            if (!isCarriedOut(command)) {
                history.returnToDraft(state);
                throw new UnsupportedOperationException("a command cannot be carried out");
            }
        }
        history.keepDraft();
        return count;
    }

    public int undo() throws IllegalStateException {
        if (history.count == 0) {
            throw new IllegalStateException("there is no change");
        }
        history.takeBack(state);
        return history.count;
    }

    public int save() {
        saved.copyFrom(state);
        isSaved = true;
        return state.countStatus(BOOKED);
    }

    public int restore() throws IllegalStateException {
        if (!isSaved) {
            throw new IllegalStateException("nothing was saved");
        }
        state.copyFrom(saved);
        history.forget();
        return state.countStatus(BOOKED);
    }

    // ---- what the calls share

    private static boolean isBelow(int number, int limit) {
        return number >= 0 && number < limit;
    }

    private static boolean areDays(int first, int last) {
        return first >= 0 && first <= last && last < DAYS;
    }

    private static void throwFor(int fault) {
        if (fault == NO_SUCH_NUMBER) {
            throw new IndexOutOfBoundsException("there is none with this number");
        }
        if (fault == OUT_OF_RANGE) {
            throw new IllegalArgumentException("a number is out of range");
        }
        if (fault == NOT_IN_THIS_STATE) {
            throw new IllegalStateException("this cannot be done in this state");
        }
    }

    private int faultOfBooking(int inmate, int visitors, int day, int slot) {
        if (!isBelow(inmate, state.inmates.count)) {
            return NO_SUCH_NUMBER;
        }
        boolean isRight = state.isParty(visitors) && isBelow(day, DAYS) && isBelow(slot, SLOTS);
        return isRight ? RIGHT : OUT_OF_RANGE;
    }

    private int faultOfCancelling(int visit) {
        if (!isBelow(visit, state.visits.count)) {
            return NO_SUCH_NUMBER;
        }
        return state.visits.rows[visit][VISIT_STATUS] == BOOKED ? RIGHT : NOT_IN_THIS_STATE;
    }

    private int faultOfMove(int inmate, int wing) {
        if (!isBelow(inmate, state.inmates.count)) {
            return NO_SUCH_NUMBER;
        }
        return isBelow(wing, WINGS) ? RIGHT : OUT_OF_RANGE;
    }

    private int faultOfBan(int kind, int inmate, int other, int first, int last) {
        if (!isBelow(inmate, state.inmates.count)) {
            return NO_SUCH_NUMBER;
        }
        // What the other number tells is known only if the kind is right.
        if (!isBelow(kind, KINDS_OF_BANS)) {
            return OUT_OF_RANGE;
        }
        if (!isBelow(other, othersFor(kind))) {
            return NO_SUCH_NUMBER;
        }
        boolean isSame = kind == BAN_OF_PAIR && inmate == other;
        if (isSame || !areDays(first, last)) {
            return OUT_OF_RANGE;
        }
        return state.bans.isFull() ? NOT_IN_THIS_STATE : RIGHT;
    }

    private int othersFor(int kindOfBan) {
        if (kindOfBan == BAN_OF_VISITOR) {
            return state.visitors.count;
        }
        return kindOfBan == BAN_OF_KIND ? KINDS_OF_VISITORS : state.inmates.count;
    }

    private void writeReport(int inmate, int moment, int reason) {
        int[] top = refused.addRow();
        top[REPORT_FIRST] = inmate;
        top[REPORT_SECOND] = moment;
        int[] cause = refused.addRow();
        cause[REPORT_FIRST] = reason;
        cause[REPORT_SECOND] = judge.detail;
    }

    private boolean isCarriedOut(int command) {
        int[] row = text.commands.rows[command];
        int number = row[COMMAND_NUMBER];
        switch (row[COMMAND_SIGN]) {
            case 'b':
                return isBookedByCommand(row, command);
            case 'x':
                if (faultOfCancelling(number) != RIGHT) {
                    return false;
                }
                desk.dropVisit(number);
                desk.serveWishes();
                return true;
            default:
                if (faultOfMove(number, row[COMMAND_WING]) != RIGHT) {
                    return false;
                }
                desk.moveInmate(number, row[COMMAND_WING]);
                return true;
        }
    }

    private boolean isBookedByCommand(int[] row, int command) {
        int inmate = row[COMMAND_NUMBER];
        int visitors = row[COMMAND_VISITORS];
        int day = row[COMMAND_DAY];
        int slot = row[COMMAND_SLOT];
        if (faultOfBooking(inmate, visitors, day, slot) != RIGHT) {
            return false;
        }
        int reason = judge.reasonFor(inmate, visitors, day, slot);
        if (reason != NOT_REFUSED) {
            refused.clear();
            int[] ahead = refused.addRow();
            ahead[REPORT_FIRST] = MARK_OF_COMMAND;
            ahead[REPORT_SECOND] = command;
            writeReport(inmate, day * SLOTS + slot, reason);
            return false;
        }
        desk.enterVisit(inmate, visitors, day * SLOTS + slot);
        return true;
    }

    /** Rows of numbers; all rows are made at once, and the first ones, as many as count says, are in use. */
    private static final class Table {
        final int[][] rows;
        final int width;
        int count;

        Table(int most, int width) {
            this.rows = new int[most][width];
            this.width = width;
            this.count = 0;
        }

        boolean isFull() {
            return count >= rows.length;
        }

        /** The new last row, with what an earlier use left in it; callers see to it that the table is not full. */
        int[] addRow() {
            if (count < rows.length) {
                count++;
            }
            return rows[count - 1];
        }

        void removeRow(int number) {
            if (number < 0 || number >= count) {
                return;
            }
            for (int later = number + 1; later < count; later++) {
                System.arraycopy(rows[later], 0, rows[later - 1], 0, width);
            }
            count--;
        }

        void clear() {
            count = 0;
        }

        /** The other table is of the same size. */
        void copyFrom(Table other) {
            for (int number = 0; number < other.count; number++) {
                System.arraycopy(other.rows[number], 0, rows[number], 0, width);
            }
            count = other.count;
        }
    }

    /** All that undo takes back and that a snapshot holds. */
    private static final class State {
        int today;
        final int[] settings;
        final Table inmates;
        final Table visitors;
        final Table rooms;
        final Table visits;
        final Table bans;
        final Table wishes;
        final Table notices;

        State() {
            today = 0;
            settings = new int[] {1, 2, 3, 4};
            inmates = new Table(MAX_INMATES, INMATE_WIDTH);
            visitors = new Table(MAX_VISITORS, VISITOR_WIDTH);
            rooms = new Table(MAX_ROOMS, ROOM_WIDTH);
            visits = new Table(MAX_VISITS, VISIT_WIDTH);
            bans = new Table(MAX_BANS, BAN_WIDTH);
            wishes = new Table(MAX_WISHES, WISH_WIDTH);
            notices = new Table(MAX_NOTICES, NOTICE_WIDTH);
        }

        void copyFrom(State other) {
            today = other.today;
            System.arraycopy(other.settings, 0, settings, 0, SETTINGS);
            inmates.copyFrom(other.inmates);
            visitors.copyFrom(other.visitors);
            rooms.copyFrom(other.rooms);
            visits.copyFrom(other.visits);
            bans.copyFrom(other.bans);
            wishes.copyFrom(other.wishes);
            notices.copyFrom(other.notices);
        }

        void addNotice(int visit, int kind) {
            if (notices.isFull()) {
                notices.removeRow(0);
            }
            int[] row = notices.addRow();
            row[NOTICE_VISIT] = visit;
            row[NOTICE_KIND] = kind;
        }

        boolean isParty(int set) {
            int size = Integer.bitCount(set);
            return size >= 1 && size <= MOST_VISITORS_AT_ONCE && set >>> visitors.count == 0;
        }

        int visitorsOfKind(int kind) {
            int set = 0;
            for (int visitor = 0; visitor < visitors.count; visitor++) {
                if (visitors.rows[visitor][VISITOR_KIND] == kind) {
                    set |= 1 << visitor;
                }
            }
            return set;
        }

        boolean isForQuota(int set) {
            return (set & ~visitorsOfKind(LAWYER)) != 0;
        }

        int quotaOf(int inmate) {
            return settings[inmates.rows[inmate][INMATE_LEVEL]];
        }

        int countedVisits(int inmate, int week) {
            int lawyers = visitorsOfKind(LAWYER);
            int counted = 0;
            for (int visit = 0; visit < visits.count; visit++) {
                int[] row = visits.rows[visit];
                if (row[VISIT_INMATE] == inmate && row[VISIT_STATUS] != CANCELLED
                        && row[VISIT_DAY] / DAYS_OF_WEEK == week && (row[VISIT_VISITORS] & ~lawyers) != 0) {
                    counted++;
                }
            }
            return counted;
        }

        int countStatus(int status) {
            int counted = 0;
            for (int visit = 0; visit < visits.count; visit++) {
                if (visits.rows[visit][VISIT_STATUS] == status) {
                    counted++;
                }
            }
            return counted;
        }

        long bookedVisits() {
            long set = 0;
            for (int visit = 0; visit < visits.count; visit++) {
                if (visits.rows[visit][VISIT_STATUS] == BOOKED) {
                    set |= 1L << visit;
                }
            }
            return set;
        }

        /** The set of booked visits that have a number at a place of their rows. */
        long bookedWith(int place, int number) {
            long set = 0;
            for (int visit = 0; visit < visits.count; visit++) {
                int[] row = visits.rows[visit];
                if (row[VISIT_STATUS] == BOOKED && row[place] == number) {
                    set |= 1L << visit;
                }
            }
            return set;
        }

        /** The first visit of a set by days, then slots, then rooms. */
        int earliest(long set) {
            int found = NONE;
            int least = Integer.MAX_VALUE;
            for (int visit = 0; visit < visits.count; visit++) {
                int[] row = visits.rows[visit];
                int order = (row[VISIT_DAY] * SLOTS + row[VISIT_SLOT]) * MAX_ROOMS + row[VISIT_ROOM];
                if ((set >>> visit & 1L) != 0 && order < least) {
                    least = order;
                    found = visit;
                }
            }
            return found;
        }

        int distance(int inmate, int room) {
            int difference = inmates.rows[inmate][INMATE_WING] - rooms.rows[room][ROOM_WING];
            return difference < 0 ? -difference : difference;
        }

        /** The first room of a set in the order of rooms for an inmate. */
        int firstRoom(int inmate, int set) {
            int found = NONE;
            int least = Integer.MAX_VALUE;
            for (int room = 0; room < rooms.count; room++) {
                int order = distance(inmate, room) * (MOST_SEATS + 1) + rooms.rows[room][ROOM_SEATS];
                if ((set >>> room & 1) != 0 && order < least) {
                    least = order;
                    found = room;
                }
            }
            return found;
        }

        int searchesOf(int visit) {
            int[] row = visits.rows[visit];
            boolean isSearched = row[VISIT_STATUS] != CANCELLED && rooms.rows[row[VISIT_ROOM]][ROOM_GLASS] == 0;
            return isSearched ? Integer.bitCount(row[VISIT_VISITORS]) : 0;
        }

        int sumOfSearches() {
            int sum = 0;
            for (int visit = 0; visit < visits.count; visit++) {
                if (visits.rows[visit][VISIT_STATUS] == BOOKED) {
                    sum += searchesOf(visit);
                }
            }
            return sum;
        }

        int sumOfDistances() {
            int sum = 0;
            for (int visit = 0; visit < visits.count; visit++) {
                int[] row = visits.rows[visit];
                if (row[VISIT_STATUS] == BOOKED) {
                    sum += distance(row[VISIT_INMATE], row[VISIT_ROOM]);
                }
            }
            return sum;
        }

        /** Whether a visit would break a ban of a visitor or of a kind. */
        boolean isBroken(int[] ban, int inmate, int set, int day) {
            if (ban[BAN_INMATE] != inmate || day < ban[BAN_FIRST] || day > ban[BAN_LAST]) {
                return false;
            }
            if (ban[BAN_KIND] == BAN_OF_VISITOR) {
                return (set >>> ban[BAN_OTHER] & 1) != 0;
            }
            return ban[BAN_KIND] == BAN_OF_KIND && (set & visitorsOfKind(ban[BAN_OTHER])) != 0;
        }
    }

    /** Finds reasons for refusals, and rooms for visits. What it found last stays in its fields. */
    private static final class Judge {
        private final State state;
        // The booked visit of each inmate in the slot that was looked at last.
        private final int[] visitOf;
        private int busyVisitors;
        int takenRooms;
        int placesLeft;
        int detail;
        int chosenRoom;

        Judge(State state) {
            this.state = state;
            visitOf = new int[MAX_INMATES];
            busyVisitors = 0;
            takenRooms = 0;
            placesLeft = 0;
            detail = 0;
            chosenRoom = NONE;
        }

        int reasonFor(int inmate, int visitors, int day, int slot) {
            int reason = reasonOfDay(inmate, visitors, day);
            return reason != NOT_REFUSED ? reason : reasonOfSlot(inmate, visitors, day, slot);
        }

        /** The first slot of some days in which a visit would not be refused, as day * 4 + slot. */
        int firstMoment(int inmate, int visitors, int first, int last) {
            for (int day = first; day <= last; day++) {
                if (reasonOfDay(inmate, visitors, day) != NOT_REFUSED) {
                    continue;
                }
                for (int slot = 0; slot < SLOTS; slot++) {
                    if (reasonOfSlot(inmate, visitors, day, slot) == NOT_REFUSED) {
                        return day * SLOTS + slot;
                    }
                }
            }
            return NONE;
        }

        private int refuse(int reason, int why) {
            detail = why;
            return reason;
        }

        private int reasonOfDay(int inmate, int visitors, int day) {
            if (day < state.today) {
                return refuse(DAY_IS_OVER, state.today);
            }
            for (int ban = 0; ban < state.bans.count; ban++) {
                if (state.isBroken(state.bans.rows[ban], inmate, visitors, day)) {
                    return refuse(VISIT_IS_BANNED, ban);
                }
            }
            int quota = state.quotaOf(inmate);
            if (state.isForQuota(visitors) && state.countedVisits(inmate, day / DAYS_OF_WEEK) >= quota) {
                return refuse(QUOTA_IS_REACHED, quota);
            }
            return NOT_REFUSED;
        }

        private int reasonOfSlot(int inmate, int visitors, int day, int slot) {
            lookAt(day, slot);
            if (visitOf[inmate] != NONE) {
                return refuse(INMATE_IS_BUSY, visitOf[inmate]);
            }
            int busy = visitors & busyVisitors;
            if (busy != 0) {
                // The bits below the lowest one are as many as its number.
                return refuse(VISITOR_IS_BUSY, Integer.bitCount((busy & -busy) - 1));
            }
            int reason = chooseRoom(inmate, visitors, day);
            if (reason == NOT_REFUSED && state.visits.isFull()) {
                return refuse(VISITS_ARE_USED_UP, MAX_VISITS);
            }
            return reason;
        }

        void lookAt(int day, int slot) {
            Arrays.fill(visitOf, NONE);
            busyVisitors = 0;
            takenRooms = 0;
            placesLeft = state.settings[SETTING_OF_PLACES];
            for (int visit = 0; visit < state.visits.count; visit++) {
                int[] row = state.visits.rows[visit];
                if (row[VISIT_DAY] == day && row[VISIT_SLOT] == slot && row[VISIT_STATUS] == BOOKED) {
                    visitOf[row[VISIT_INMATE]] = visit;
                    busyVisitors |= row[VISIT_VISITORS];
                    takenRooms |= 1 << row[VISIT_ROOM];
                    placesLeft -= state.searchesOf(visit);
                }
            }
        }

        /** Chooses the room for a visit in the slot that was looked at last; returns why there is none. */
        int chooseRoom(int inmate, int visitors, int day) {
            int size = Integer.bitCount(visitors);
            int free = freeRooms();
            int possible = possibleRooms(inmate, size, free & ~barredRooms(inmate, day));
            if (possible == 0) {
                return refuse(NO_ROOM_IS_POSSIBLE, Integer.bitCount(free));
            }
            chosenRoom = state.firstRoom(inmate, placesLeft >= size ? possible : glassRooms(possible));
            return chosenRoom == NONE ? refuse(NO_ROOM_CAN_BE_HAD, placesLeft) : NOT_REFUSED;
        }

        private int freeRooms() {
            int set = 0;
            for (int room = 0; room < state.rooms.count; room++) {
                if (state.rooms.rows[room][ROOM_OPEN] == 1) {
                    set |= 1 << room;
                }
            }
            return set & ~takenRooms;
        }

        private int glassRooms(int among) {
            int set = 0;
            for (int room = 0; room < state.rooms.count; room++) {
                if (state.rooms.rows[room][ROOM_GLASS] == 1) {
                    set |= 1 << room;
                }
            }
            return set & among;
        }

        private int possibleRooms(int inmate, int size, int among) {
            boolean isGlassOnly = state.inmates.rows[inmate][INMATE_CONFINED] == 1;
            int set = isGlassOnly ? glassRooms(among) : among;
            for (int room = 0; room < state.rooms.count; room++) {
                if (state.rooms.rows[room][ROOM_SEATS] < size) {
                    set &= ~(1 << room);
                }
            }
            return set;
        }

        /** The rooms that are too close to visits of inmates with whom a ban of a pair holds. */
        private int barredRooms(int inmate, int day) {
            int wings = 0;
            for (int number = 0; number < state.bans.count; number++) {
                int[] ban = state.bans.rows[number];
                int visit = visitOfPartner(ban, inmate);
                if (visit != NONE && day >= ban[BAN_FIRST] && day <= ban[BAN_LAST]) {
                    int wing = state.rooms.rows[state.visits.rows[visit][VISIT_ROOM]][ROOM_WING];
                    // This wing and its two neighbours, as a set.
                    wings |= 7 << wing >> 1;
                }
            }
            int set = 0;
            for (int room = 0; room < state.rooms.count; room++) {
                set |= (wings >> state.rooms.rows[room][ROOM_WING] & 1) << room;
            }
            return set;
        }

        private int visitOfPartner(int[] ban, int inmate) {
            if (ban[BAN_KIND] != BAN_OF_PAIR) {
                return NONE;
            }
            if (ban[BAN_INMATE] == inmate) {
                return visitOf[ban[BAN_OTHER]];
            }
            return ban[BAN_OTHER] == inmate ? visitOf[ban[BAN_INMATE]] : NONE;
        }
    }

    /** Carries out the changes for visits; what they need was asked before. */
    private static final class Desk {
        private final State state;
        private final Judge judge;

        Desk(State state, Judge judge) {
            this.state = state;
            this.judge = judge;
        }

        /** Enters a visit in the room that the judge chose for it last. */
        int enterVisit(int inmate, int visitors, int moment) {
            int[] row = state.visits.addRow();
            row[VISIT_INMATE] = inmate;
            row[VISIT_VISITORS] = visitors;
            row[VISIT_DAY] = moment / SLOTS;
            row[VISIT_SLOT] = moment % SLOTS;
            row[VISIT_ROOM] = judge.chosenRoom;
            row[VISIT_STATUS] = BOOKED;
            return state.visits.count - 1;
        }

        void dropVisit(int visit) {
            state.visits.rows[visit][VISIT_STATUS] = CANCELLED;
        }

        int openRoom(int room) {
            int[] row = state.rooms.rows[room];
            boolean wasClosed = row[ROOM_OPEN] == 0;
            row[ROOM_OPEN] = 1;
            return wasClosed ? serveWishes() : 0;
        }

        int closeRoom(int room) {
            state.rooms.rows[room][ROOM_OPEN] = 0;
            return rehouse(state.bookedWith(VISIT_ROOM, room));
        }

        int moveInmate(int inmate, int wing) {
            state.inmates.rows[inmate][INMATE_WING] = wing;
            return rehouse(state.bookedWith(VISIT_INMATE, inmate));
        }

        int confineInmate(int inmate, boolean isConfined) {
            state.inmates.rows[inmate][INMATE_CONFINED] = isConfined ? 1 : 0;
            return isConfined ? rehouse(state.bookedWith(VISIT_INMATE, inmate)) : 0;
        }

        /** Looks at a set of booked visits in their order; returns the number of notices that come by that. */
        private int rehouse(long visits) {
            int notices = 0;
            long left = visits;
            for (int looked = 0; looked < MAX_VISITS && left != 0; looked++) {
                int visit = state.earliest(left);
                left &= ~(1L << visit);
                if (isChanged(visit)) {
                    notices++;
                }
            }
            return notices;
        }

        private boolean isChanged(int visit) {
            int[] row = state.visits.rows[visit];
            // While it counts as cancelled, its own room and places are free for it.
            row[VISIT_STATUS] = CANCELLED;
            judge.lookAt(row[VISIT_DAY], row[VISIT_SLOT]);
            if (judge.chooseRoom(row[VISIT_INMATE], row[VISIT_VISITORS], row[VISIT_DAY]) != NOT_REFUSED) {
                state.addNotice(visit, CANCELLED_FOR_ROOM);
                return true;
            }
            row[VISIT_STATUS] = BOOKED;
            if (row[VISIT_ROOM] == judge.chosenRoom) {
                return false;
            }
            row[VISIT_ROOM] = judge.chosenRoom;
            state.addNotice(visit, GOT_OTHER_ROOM);
            return true;
        }

        /** Books the wishes that can be booked; returns their number. */
        int serveWishes() {
            int booked = 0;
            int wish = 0;
            int looks = state.wishes.count;
            for (int look = 0; look < looks; look++) {
                int[] row = state.wishes.rows[wish];
                int first = row[WISH_FIRST] > state.today ? row[WISH_FIRST] : state.today;
                int moment = judge.firstMoment(row[WISH_INMATE], row[WISH_VISITORS], first, row[WISH_LAST]);
                if (moment == NONE) {
                    wish++;
                } else {
                    int visit = enterVisit(row[WISH_INMATE], row[WISH_VISITORS], moment);
                    state.addNotice(visit, BOOKED_FOR_WISH);
                    state.wishes.removeRow(wish);
                    booked++;
                }
            }
            return booked;
        }

        /** Cancels the visits that break a ban of a visitor or of a kind; returns their number. */
        int dropBanned(int[] ban) {
            int dropped = 0;
            for (int visit = 0; visit < state.visits.count; visit++) {
                int[] row = state.visits.rows[visit];
                if (row[VISIT_STATUS] == BOOKED
                        && state.isBroken(ban, row[VISIT_INMATE], row[VISIT_VISITORS], row[VISIT_DAY])) {
                    dropForBan(visit);
                    dropped++;
                }
            }
            return dropped;
        }

        /** Cancels a visit in each slot in which a ban of a pair is broken; returns their number. */
        int partPair(int[] ban) {
            int dropped = 0;
            long left = state.bookedWith(VISIT_INMATE, ban[BAN_INMATE]);
            for (int looked = 0; looked < MAX_VISITS && left != 0; looked++) {
                int visit = state.earliest(left);
                left &= ~(1L << visit);
                int other = visitAtSameTime(visit, ban[BAN_OTHER]);
                int day = state.visits.rows[visit][VISIT_DAY];
                if (other != NONE && day >= ban[BAN_FIRST] && day <= ban[BAN_LAST] && areClose(visit, other)) {
                    dropForBan(visit > other ? visit : other);
                    dropped++;
                }
            }
            return dropped;
        }

        private void dropForBan(int visit) {
            dropVisit(visit);
            state.addNotice(visit, CANCELLED_BY_BAN);
        }

        private int visitAtSameTime(int visit, int inmate) {
            int[] row = state.visits.rows[visit];
            long others = state.bookedWith(VISIT_INMATE, inmate);
            for (int other = 0; other < state.visits.count; other++) {
                int[] its = state.visits.rows[other];
                if ((others >>> other & 1L) != 0 && its[VISIT_DAY] == row[VISIT_DAY]
                        && its[VISIT_SLOT] == row[VISIT_SLOT]) {
                    return other;
                }
            }
            return NONE;
        }

        private boolean areClose(int visit, int other) {
            int wing = state.rooms.rows[state.visits.rows[visit][VISIT_ROOM]][ROOM_WING];
            int otherWing = state.rooms.rows[state.visits.rows[other][VISIT_ROOM]][ROOM_WING];
            return wing - otherWing < 2 && otherWing - wing < 2;
        }

        /** Lets days pass; returns the number of visits that are held by that. */
        int passDays(int days) {
            state.today += days;
            int held = 0;
            for (int visit = 0; visit < state.visits.count; visit++) {
                int[] row = state.visits.rows[visit];
                if (row[VISIT_STATUS] == BOOKED && row[VISIT_DAY] < state.today) {
                    row[VISIT_STATUS] = HELD;
                    held++;
                }
            }
            for (int wish = state.wishes.count - 1; wish >= 0; wish--) {
                if (state.wishes.rows[wish][WISH_LAST] < state.today) {
                    state.wishes.removeRow(wish);
                }
            }
            return held;
        }
    }

    /** The states before the latest changes, in a ring with one more place, in which a draft is made. */
    private static final class History {
        private static final int PLACES = MAX_CHANGES + 1;
        private final State[] states;
        private int spare;
        int count;

        History() {
            states = new State[PLACES];
            for (int place = 0; place < PLACES; place++) {
                states[place] = new State();
            }
            spare = 0;
            count = 0;
        }

        /** Keeps a state as the one before the change that comes now. */
        void keep(State state) {
            draft(state);
            keepDraft();
        }

        /** Puts a state down for a change that may fail. */
        void draft(State state) {
            states[spare].copyFrom(state);
        }

        void keepDraft() {
            spare = (spare + 1) % PLACES;
            if (count < MAX_CHANGES) {
                count++;
            }
        }

        void returnToDraft(State state) {
            state.copyFrom(states[spare]);
        }

        void takeBack(State state) {
            if (count > 0) {
                spare = (spare + PLACES - 1) % PLACES;
                count--;
                returnToDraft(state);
            }
        }

        void forget() {
            count = 0;
        }
    }

    /** The input buffer, and the commands that were read from it. */
    private static final class Text {
        private final char[] letters;
        private int length;
        // The first character that was not read yet.
        private int place;
        final Table commands;

        Text() {
            letters = new char[MAX_LETTERS];
            length = 0;
            place = 0;
            commands = new Table(MAX_COMMANDS, COMMAND_WIDTH);
        }

        boolean isFull() {
            return length >= MAX_LETTERS;
        }

        int append(char letter) {
            if (length < MAX_LETTERS) {
                letters[length] = letter;
                length++;
            }
            return length;
        }

        void empty() {
            length = 0;
        }

        /** Reads the commands; returns the error position, if there is one. */
        int findError() {
            place = 0;
            commands.clear();
            for (int number = 0; number < MAX_COMMANDS; number++) {
                if (!hasCommand()) {
                    return place;
                }
                if (place == length) {
                    return NONE;
                }
                if (!hasSign(';')) {
                    return place;
                }
            }
            return place;
        }

        // Each of these reads as far as the text is right, so that the place is the error position then.

        private boolean hasCommand() {
            int[] row = commands.addRow();
            if (hasSign('b')) {
                row[COMMAND_SIGN] = 'b';
                return hasDigit(row, COMMAND_NUMBER) && hasSign(':') && hasVisitors(row) && hasSign('@')
                        && hasNumber(row, COMMAND_DAY) && hasSign('.') && hasDigit(row, COMMAND_SLOT);
            }
            if (hasSign('x')) {
                row[COMMAND_SIGN] = 'x';
                return hasNumber(row, COMMAND_NUMBER);
            }
            row[COMMAND_SIGN] = 'm';
            return hasSign('m') && hasDigit(row, COMMAND_NUMBER) && hasSign('/') && hasDigit(row, COMMAND_WING);
        }

        private boolean hasSign(char sign) {
            if (place >= length || letters[place] != sign) {
                return false;
            }
            place++;
            return true;
        }

        private boolean hasDigit(int[] row, int column) {
            if (place >= length || letters[place] < '0' || letters[place] > '9') {
                return false;
            }
            row[column] = letters[place] - '0';
            place++;
            return true;
        }

        private boolean hasNumber(int[] row, int column) {
            if (!hasDigit(row, column)) {
                return false;
            }
            int tens = row[column];
            if (hasDigit(row, column)) {
                row[column] += tens * 10;
            }
            return true;
        }

        private boolean hasVisitors(int[] row) {
            int set = 0;
            for (int count = 0; count < MOST_VISITORS_AT_ONCE && place < length; count++) {
                int visitor = letters[place] - 'a';
                if (!isBelow(visitor, MAX_VISITORS) || (set >>> visitor & 1) != 0) {
                    break;
                }
                set |= 1 << visitor;
                place++;
            }
            row[COMMAND_VISITORS] = set;
            return set != 0;
        }
    }
}
