import java.util.NoSuchElementException;

/** Promises 31 to 35: commands, undo and snapshots. */
public final class CommandsTest {
    public static void main(String[] args) {
        promise31();
        promise32();
        promise32Errors();
        promise32Refused();
        promise32AllOrNone();
        promise33();
        promise33EachChange();
        promise33NoChange();
        promise34();
        promise35();
        Check.end();
    }

    private static VisitBooking desk() {
        VisitBooking x = new VisitBooking();
        x.addInmate(0, 2);
        x.addInmate(1, 2);
        x.addVisitor(0);
        x.addVisitor(1);
        x.addVisitor(2);
        x.addRoom(0, 3, true);
        x.addRoom(2, 3, true);
        return x;
    }

    private static void performs(VisitBooking x, String text, int want) {
        Check.due("32: " + text, () -> Check.perform(x, text), want);
    }

    private static void fails(VisitBooking x, String text) {
        Check.fails("32: " + text, () -> Check.perform(x, text), UnsupportedOperationException.class);
    }

    private static void promise31() {
        VisitBooking x = new VisitBooking();
        char[] letters = {'b', 'x', 0, 255, 256, 65535, ' ', '\n'};
        for (int k = 0; k < 80; k++) {
            char letter = letters[k % letters.length];
            int number = k + 1;
            Check.due("31: character " + number, () -> x.feed(letter), number);
        }
        Check.fails("31: one more", () -> x.feed('b'), IllegalStateException.class);
        Check.fails("31: and one more", () -> x.feed('b'), IllegalStateException.class);
        Check.due("31: the order", () -> x.perform(), -101);
        Check.due("31: empty afterwards", () -> x.feed('x'), 1);
        Check.due("31: empty afterwards", () -> x.perform(), -101);
        Check.fails("31: no change", () -> x.undo(), IllegalStateException.class);
    }

    private static void promise32() {
        VisitBooking x = desk();
        performs(x, "b0:a@2.3", 1);
        Check.due("32: the visit", () -> x.visit(0, 2) * 4 + x.visit(0, 3), 11);
        performs(x, "b1:bc@02.3;x0;m1/2;b0:cab@55.0", 4);
        Check.due("32: booked in the other room, moved to the same one", () -> x.visit(1, 4), 1);
        Check.due("32: cancelled", () -> x.visit(0, 5), 2);
        Check.due("32: moved", () -> x.inmate(1, 0), 2);
        Check.due("32: three visitors", () -> x.visit(2, 1), 7);
        Check.due("32: the last day", () -> x.visit(2, 2), 55);
        performs(x, "m0/3;m0/0;m0/3;m0/0;m0/3;m0/0;m0/3;m0/0;m0/3;m0/0;m0/3;m0/0;m0/3;m0/0;m0/3;m0/00", -179);
        StringBuilder most = new StringBuilder("x1");
        for (int k = 1; k < 27; k++) {
            most.append(";x1");
        }
        Check.due("32: 80 characters", () -> most.length(), 80);
        fails(x, most.toString());
        performs(x, "m0/3;m0/0;m0/3;m0/0;m0/3;m0/0;m0/3;m0/0;m0/3;m0/0;m0/3;m0/0;m0/3;m0/0;m0/3;m0/1", 16);
        Check.due("32: the last command", () -> x.inmate(0, 0), 1);
        performs(x, "m0/2", 1);
        Check.due("32: commands of earlier texts are over", () -> x.inmate(0, 0), 2);
        x.book(1, 4, 3, 0);
        x.book(1, 4, 3, 1);
        x.book(1, 4, 3, 2);
        x.book(1, 4, 3, 3);
        x.wish(0, 4, 3, 3);
        performs(x, "x03", 1);
        Check.due("32: a wish is booked", () -> x.account(9), 0);
        Check.due("32: in the slot that is free", () -> x.visit(7, 3), 0);
    }

    private static void promise32Errors() {
        VisitBooking x = desk();
        String[] wrong = {"", "b", "b0", "b0:", "b0:a", "b0:ab", "b0:abc", "b0:a@", "b0:a@1", "b0:a@12", "b0:a@12.",
            "x", "m", "m0", "m0/", "b0:a@1.1;", "x1;", "m0/1;", "x1;b0:l@9"};
        for (String text : wrong) {
            performs(x, text, -100 - text.length());
        }
        String[] right = {"b0:a@1.1", "b0:abc@12.1", "x1", "x12", "m0/1", "b0:a@1.1;x12;m0/1;b0:l@99.9", "x9;x99"};
        for (String text : right) {
            performs(x, text + "!", -100 - text.length());
            performs(x, text + ";!", -101 - text.length());
            performs(x, text + ";;", -101 - text.length());
            performs(x, " " + text, -100);
            performs(x, text + (char) 0, -100 - text.length());
            performs(x, text + ";" + (char) ('b' + 256), -101 - text.length());
        }
        performs(x, "b0:ab", -105);
        performs(x, "b0:a@1", -106);
        performs(x, "m0/0;m0/0;m0/0;m0/0;m0/0;m0/0;m0/0;m0/0;m0/0;m0/0;m0/0;m0/0;m0/0;m0/0;m0/0;b0:ab", -180);
        performs(x, "x123", -103);
        performs(x, "xa", -101);
        performs(x, "m01", -102);
        performs(x, "m0/12", -104);
        performs(x, "b01:a@1.1", -102);
        performs(x, "b0:@1.1", -103);
        performs(x, "b0:m@1.1", -103);
        performs(x, "b0:A@1.1", -103);
        performs(x, "b0:lm@1.1", -104);
        performs(x, "b0:aa@1.1", -104);
        performs(x, "b0:aba@1.1", -105);
        performs(x, "b0:abb@1.1", -105);
        performs(x, "b0:abcd@1.1", -106);
        performs(x, "b0:abca@1.1", -106);
        performs(x, "b0:a@123.1", -107);
        performs(x, "b0:a@.1", -105);
        performs(x, "b0:a@1.12", -108);
        performs(x, "b0:a@1:1", -106);
        performs(x, "b0:a@1.1;b0:aa", -113);
        performs(x, "b/:a@1.1", -101);
        performs(x, "b::a@1.1", -101);
        performs(x, "B0:a@1.1", -100);
        Check.due("32: nothing is booked", () -> x.account(1), 0);
        Check.due("32: no change", () -> x.undo(), 6);
    }

    private static void promise32Refused() {
        VisitBooking x = desk();
        String[] wrong = {"b2:a@1.1", "b0:d@1.1", "b0:al@1.1", "b0:a@56.1", "b0:a@1.4", "x0", "x99", "m2/0", "m0/4"};
        for (String text : wrong) {
            fails(x, text);
            fails(x, "m0/1;" + text);
            Check.due("32: moved back", () -> x.inmate(0, 0), 0);
        }
        Check.fails("32: no report", () -> x.report(0, false), NoSuchElementException.class);
        Check.due("32: empty afterwards", () -> x.perform(), -100);
        x.confine(0, true);
        fails(x, "b0:a@1.1;x0;x0");
        Check.fails("32: no report", () -> x.report(0, false), NoSuchElementException.class);
        fails(x, "m0/1;b0:a@1.1;b0:b@1.1");
        Check.due("32: a command", () -> x.report(0, false), 99);
        Check.due("32: its number", () -> x.report(0, true), 2);
        Check.due("32: the inmate", () -> x.report(1, false), 0);
        Check.due("32: the time", () -> x.report(1, true), 5);
        Check.due("32: the reason", () -> x.report(2, false), 4);
        Check.due("32: the detail", () -> x.report(2, true), 0);
        fails(x, "b2:a@1.1");
        Check.due("32: the earlier report", () -> x.report(0, true), 2);
        Check.due("32: empty afterwards", () -> x.feed('x'), 1);
    }

    private static void promise32AllOrNone() {
        VisitBooking x = desk();
        x.book(0, 1, 0, 0);
        x.book(0, 2, 0, 1);
        x.wish(1, 4, 0, 0);
        x.ban(0, 1, 1, 5, 6);
        fails(x, "x0;m0/2;m0/0;b1:b@4.0;b1:b@5.0");
        Check.due("32: booked again", () -> x.visit(0, 5), 0);
        Check.due("32: its room", () -> x.visit(1, 4), 0);
        Check.due("32: no new visits", () -> x.account(1), 2);
        Check.due("32: no notices", () -> x.account(10), 0);
        Check.due("32: the wish is there", () -> x.wished(0, 1), 4);
        Check.due("32: the detail", () -> x.report(2, true), 0);
        Check.due("32: no change", () -> x.undo(), 7);
        Check.due("32: the ban was the latest", () -> x.account(8), 0);
        performs(x, "x0;m0/2;m0/0;b1:b@4.0", 4);
        Check.due("32: one change", () -> x.undo(), 7);
        Check.due("32: booked again", () -> x.visit(0, 5), 0);
        Check.due("32: no notices", () -> x.account(10), 0);
    }

    private static void promise33() {
        VisitBooking x = new VisitBooking();
        Check.fails("33: no change", () -> x.undo(), IllegalStateException.class);
        for (int k = 0; k < 10; k++) {
            x.addInmate(k % 4, 0);
        }
        for (int k = 7; k >= 0; k--) {
            int left = k;
            Check.due("33: taken back", () -> x.undo(), left);
            Check.due("33: inmates", () -> x.account(5), left + 2);
        }
        Check.fails("33: older ones are gone", () -> x.undo(), IllegalStateException.class);
        Check.due("33: inmates", () -> x.account(5), 2);
        x.addVisitor(0);
        x.addVisitor(1);
        x.undo();
        x.addVisitor(2);
        Check.due("33: the latest one", () -> x.undo(), 1);
        Check.due("33: the one before", () -> x.undo(), 0);
        Check.due("33: no visitors", () -> x.account(6), 0);
        Check.fails("33: nothing is taken back twice", () -> x.undo(), IllegalStateException.class);
        for (int k = 0; k < 9; k++) {
            x.set(3, k);
        }
        Check.fails("33: a text that fails", () -> Check.perform(x, "m0/1;x0"), UnsupportedOperationException.class);
        for (int k = 7; k >= 0; k--) {
            int left = k;
            Check.due("33: it pushes no change out", () -> x.undo(), left);
            Check.due("33: places", () -> x.slot(0, 0, true), left);
        }
    }

    private static void promise33EachChange() {
        VisitBooking x = desk();
        x.book(0, 1, 0, 0);
        x.book(0, 1, 3, 0);
        x.wish(1, 2, 0, 0);
        x.feed('x');
        Check.fails("33: a report", () -> x.book(0, 1, 0, 0), UnsupportedOperationException.class);
        x.setOpen(1, false);
        x.ban(0, 1, 1, 3, 9);
        change(x, "addInmate", () -> x.addInmate(0, 0));
        change(x, "addVisitor", () -> x.addVisitor(0));
        change(x, "addRoom", () -> x.addRoom(0, 1, true));
        change(x, "setOpen", () -> x.setOpen(0, false));
        change(x, "setOpen", () -> x.setOpen(1, true));
        change(x, "setOpen, the same", () -> x.setOpen(0, true));
        change(x, "setLevel", () -> x.setLevel(0, 0));
        change(x, "setLevel, the same", () -> x.setLevel(0, 2));
        change(x, "move", () -> x.move(0, 3));
        change(x, "move, the same", () -> x.move(0, 0));
        change(x, "confine", () -> x.confine(0, true));
        change(x, "confine, the same", () -> x.confine(0, false));
        change(x, "set a quota", () -> x.set(1, 9));
        change(x, "set the places", () -> x.set(3, 9));
        change(x, "set, the same", () -> x.set(2, 3));
        change(x, "book", () -> x.book(1, 2, 2, 0));
        change(x, "cancel", () -> x.cancel(1));
        change(x, "pass", () -> x.pass(3));
        change(x, "ban", () -> x.ban(0, 0, 0, 0, 9));
        change(x, "lift", () -> x.lift(0));
        change(x, "wish", () -> x.wish(1, 4, 0, 9));
        x.perform();
        change(x, "perform", () -> Check.perform(x, "x1;m0/2"));
        Check.due("33: the report stays", () -> x.report(1, false), 4);
        x.set(1, 9);
        x.undo();
        Check.due("33: the quota of level 1", () -> x.set(1, 9), 2);
    }

    /** Makes a change behind another one and takes it back; all that can be seen is as between them then. */
    private static void change(VisitBooking x, String what, Check.Call call) {
        x.set(3, 5);
        String before = Views.all(x);
        String answer = Check.outcome(call);
        Check.isTrue("33: " + what + " answers, not " + answer, !answer.startsWith("throws"));
        Check.due("33: " + what + " is a change", () -> x.undo(), 7);
        Check.due("33: " + what + " is taken back", () -> Views.all(x), before);
        x.set(3, 4);
        x.set(3, 4);
    }

    private static void promise33NoChange() {
        VisitBooking x = desk();
        x.book(0, 1, 0, 0);
        x.undo();
        Check.fails("33: failed", () -> x.addInmate(4, 0), IllegalArgumentException.class);
        Check.fails("33: failed", () -> x.cancel(0), IndexOutOfBoundsException.class);
        Check.fails("33: failed", () -> Check.perform(x, "m0/1;x0"), UnsupportedOperationException.class);
        Check.due("33: no command", () -> Check.perform(x, "m0/1;"), -105);
        x.firstFree(0, 1);
        x.refusal(0, 1, 0, 0);
        x.save();
        x.feed('m');
        Check.due("33: those are no changes", () -> x.undo(), 6);
        Check.due("33: the room is gone", () -> x.account(7), 1);
        Check.due("33: the buffer stays", () -> x.feed('0'), 2);
    }

    private static void promise34() {
        VisitBooking x = desk();
        Check.due("34: no visits", () -> x.save(), 0);
        x.book(0, 1, 0, 0);
        x.book(0, 1, 5, 0);
        x.book(0, 1, 5, 1);
        x.cancel(2);
        x.pass(1);
        Check.due("34: the booked ones", () -> x.save(), 1);
        String saved = Views.all(x);
        x.book(1, 1, 9, 0);
        Check.due("34: changes stay", () -> x.undo(), 7);
        x.undo();
        Check.due("34: the saved state", () -> x.restore(), 1);
        Check.due("34: the latest one that was saved", () -> Views.all(x), saved);
    }

    private static void promise35() {
        VisitBooking x = desk();
        Check.fails("35: nothing was saved", () -> x.restore(), IllegalStateException.class);
        x.book(0, 1, 1, 0);
        x.book(0, 2, 2, 0);
        x.wish(1, 4, 0, 9);
        x.ban(0, 1, 1, 5, 6);
        x.set(1, 7);
        x.move(0, 2);
        x.save();
        String saved = Views.all(x);
        x.pass(9);
        x.addInmate(0, 0);
        x.addVisitor(0);
        x.addRoom(0, 1, false);
        x.set(1, 8);
        x.set(3, 0);
        x.lift(0);
        x.confine(0, true);
        x.setLevel(1, 0);
        x.feed('x');
        Check.fails("35: a report", () -> x.book(0, 1, 0, 1), UnsupportedOperationException.class);
        Check.due("35: the booked ones", () -> x.restore(), 2);
        Check.due("35: all is as it was", () -> Views.all(x), saved);
        Check.fails("35: no change can be taken back", () -> x.undo(), IllegalStateException.class);
        Check.due("35: the report stays", () -> x.report(1, true), 9);
        Check.due("35: the buffer stays", () -> x.feed('1'), 2);
        Check.due("35: and is performed", () -> x.perform(), 1);
        Check.due("35: that can be taken back", () -> x.undo(), 0);
        Check.due("35: the quota of level 1", () -> x.set(1, 7), 7);
        x.cancel(0);
        Check.due("35: it stays saved", () -> x.restore(), 2);
        Check.due("35: all is as it was", () -> Views.all(x), saved);
        x.cancel(0);
        Check.due("35: saved anew", () -> x.save(), 2);
        Check.due("35: a wish was booked", () -> x.restore(), 2);
        Check.due("35: what was saved last", () -> x.visit(0, 5), 2);
    }
}
