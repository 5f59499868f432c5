/** Boundary cases of the promises 31 and 32: the input buffer and its commands. */
final class BoundariesOfTexts {
    private static final Class<IllegalStateException> STATE = IllegalStateException.class;
    private static final Class<UnsupportedOperationException> UNSUPPORTED = UnsupportedOperationException.class;
    private static final Whole.Maker FULL_BUFFER = BoundariesOfTexts::fullBuffer;
    /** Commands of the same length, 16 of which with their signs fill the buffer. */
    private static final String MOVES = "m0/1;m0/2;m0/3;m0/0;m0/1;m0/2;m0/3;m0/0;m0/1;m0/2;m0/3;m0/0;m0/1;m0/2;m0/3;";

    private BoundariesOfTexts() {
    }

    static void all() {
        eightyCharacters();
        anyCharacter();
        emptyText();
        endsTooEarly();
        signs();
        digits();
        numbers();
        letters();
        letterTwice();
        afterACommand();
        lastCharacter();
        mostCommands();
        numberOfCommands();
        asBookDoes();
        asCancelDoes();
        asMoveDoes();
        allOrNone();
        emptyAfterwards();
        refusedCommands();
        numberOfTheCommand();
        otherExceptions();
        earlierReport();
    }

    private static VisitBooking fullBuffer() {
        VisitBooking x = Desks.QUIET.make();
        Check.feed(x, MOVES + "m0/1;");
        return x;
    }

    // ---- promise 31

    private static void eightyCharacters() {
        Sentence.of(31, "Throws `IllegalStateException` if the buffer already holds 80 characters");
        Sentence.refused("the 81st", FULL_BUFFER, x -> x.feed('m'), STATE);
        Sentence.refused("the 82nd", FULL_BUFFER, x -> {
            Check.outcome(() -> x.feed('m'));
            return x.feed('m');
        }, STATE);

        Sentence.of(31, "Returns the number of characters in the buffer.");
        VisitBooking x = new VisitBooking();
        for (int k = 1; k <= 80; k++) {
            int number = k;
            Sentence.due("character " + k, () -> x.feed('x'), number);
        }
        Sentence.fails("no more", () -> x.feed('x'), STATE);
        Sentence.due("it is empty after that", () -> x.perform() * 1000 + x.feed('x'), -101 * 1000 + 1);
    }

    private static void anyCharacter() {
        Sentence.of(31, "Appends a character to the input buffer.");
        for (int sign : new int[] {0, 1, ' ', ';', 127, 128, 255, 256, 0x8000, 0xffff}) {
            VisitBooking x = new VisitBooking();
            Sentence.due("character " + sign, () -> x.feed((char) sign), 1);
            Sentence.due("it stands at the beginning", () -> x.perform(), -100);
            x.feed('x');
            Sentence.due("another one behind it", () -> x.feed((char) sign), 2);
            Sentence.due("it stands at the end", () -> x.perform(), -101);
        }
        VisitBooking y = Desks.QUIET.make();
        Check.feed(y, "m0/");
        y.feed('3');
        Sentence.due("in their order", () -> y.perform() * 10 + y.inmate(0, 0), 13);
        VisitBooking z = Desks.QUIET.make();
        Check.feed(z, "m0/3");
        z.undo();
        z.save();
        z.restore();
        Check.outcome(() -> z.book(0, 1, 0, 0));
        Sentence.due("other calls leave the buffer", () -> z.perform() * 10 + z.inmate(0, 0), 13);
    }

    // ---- promise 32, the form of a text

    /** A text that is wrong in form; nothing changes behind it but that the buffer is empty, as it was before. */
    private static void error(String text, int position) {
        Sentence.reads("\"" + text + "\"", Desks.QUIET, x -> Check.perform(x, text), -100 - position);
    }

    /** A text that is right in form, whatever comes of it. */
    private static void right(String text) {
        String got = Check.outcome(() -> Check.perform(Desks.QUIET.make(), text));
        Sentence.isTrue("\"" + text + "\" is right in form, not " + got, !got.startsWith("-"));
    }

    private static void emptyText() {
        Sentence.of(32, "or the length of the text if it ends too early");
        error("", 0);
        Sentence.due("on a new desk", () -> new VisitBooking().perform(), -100);
        Sentence.due("twice", () -> {
            VisitBooking x = Desks.QUIET.make();
            x.perform();
            return x.perform();
        }, -100);
    }

    private static void endsTooEarly() {
        Sentence.of(32, "or the length of the text if it ends too early");
        // Each beginning of these is no text but where a number or a list of letters may end.
        String[] texts = {"b0:abc@12.3", "x12", "m0/1", "b0:a@1.3;x1;m0/1"};
        String ends = "b0:abc@12.3 x12 x1 m0/1 b0:a@1.3 b0:a@1.3;x1 b0:a@1.3;x1;m0/1";
        for (String text : texts) {
            for (int length = 0; length <= text.length(); length++) {
                String part = text.substring(0, length);
                if (length > 0 && (" " + ends + " ").contains(" " + part + " ")) {
                    right(part);
                } else {
                    error(part, length);
                }
            }
        }
        error("m0/1;", 5);
        error("x1;m", 4);
        error("x1;b0:abc", 9);
    }

    private static void signs() {
        Sentence.of(32, "`command = \"b\" digit \":\" letter { letter` \"@\" number \".\" digit | \"x\" number | \"m\" digit");
        String[] texts = {"b0:a@1.3", "x1", "m0/1"};
        for (String text : texts) {
            for (int place = 0; place < text.length(); place++) {
                if (Character.isLetterOrDigit(text.charAt(place)) && place > 0) {
                    continue;
                }
                char sign = text.charAt(place);
                for (int other : new int[] {sign - 1, sign + 1, sign + 256, 0, ' ', 255, 0xffff}) {
                    error(text.substring(0, place) + (char) other + text.substring(place + 1), place);
                }
                // Without the point the next digit would belong to the number of the day.
                error(text.substring(0, place) + text.substring(place + 1), sign == '.' ? place + 1 : place);
            }
        }
        for (char first : "acdlnwyzBXM0;".toCharArray()) {
            error(first + "0", 0);
        }
        error("bx", 1);
        error("xb", 1);
        error("mm", 1);
        error("b0/1", 2);
        error("m0:1", 2);
        error("b0:@1.3", 3);
        error("b0:a1.3", 4);
        error("b0:a@1:3", 6);
    }

    private static void digits() {
        Sentence.of(32, "`command = \"b\" digit \":\" letter { letter` \"@\" number \".\" digit");
        String[] ahead = {"b", "b0:a@", "b0:a@1.", "x", "m", "m0/"};
        String[] behind = {":a@1.3", ".3", "", "", "/1", ""};
        for (int k = 0; k < ahead.length; k++) {
            for (char digit = '0'; digit <= '9'; digit++) {
                right(ahead[k] + digit + behind[k]);
            }
            for (int other : new int[] {'0' - 1, '9' + 1, 'a', '-', ' ', 0, '0' + 256, 0x660}) {
                error(ahead[k] + (char) other + behind[k], ahead[k].length());
            }
        }
        error("b00:a@1.3", 2);
        error("b0:a@1.33", 8);
        error("m00/1", 2);
        error("m0/11", 4);
    }

    private static void numbers() {
        Sentence.of(32, "`number = digit [ digit ]`");
        String[] right = {"0", "9", "00", "09", "10", "99"};
        for (String number : right) {
            right("x" + number);
            right("b0:a@" + number + ".3");
            error("x" + number + "/", 1 + number.length());
            error("x" + number + ":", 1 + number.length());
            error("b0:a@" + number + ";", 5 + number.length());
        }
        error("x", 1);
        error("x-1", 1);
        error("x000", 3);
        error("x123", 3);
        error("b0:a@.3", 5);
        error("b0:a@000.3", 7);
        VisitBooking x = Desks.withRoom();
        Sentence.due("day 07", () -> Check.perform(x, "b0:a@07.3"), 1);
        Sentence.due("is day 7", () -> x.visit(0, 2), 7);
        Sentence.due("day 55", () -> Check.perform(x, "b0:a@55.0"), 1);
        Sentence.due("is day 55", () -> x.visit(1, 2), 55);
        Sentence.due("visit 01", () -> Check.perform(x, "x01"), 1);
        Sentence.due("is visit 1", () -> x.visit(1, 5), 2);
        Desks.bookLawyer(x, 10, 20);
        Sentence.due("visit 11", () -> Check.perform(x, "x11"), 1);
        Sentence.due("is visit 11", () -> x.visit(11, 5), 2);
    }

    private static void letters() {
        Sentence.of(32, "and a letter is one from a to l, for the visitors 0 to 11");
        VisitBooking x = new VisitBooking();
        x.addInmate(0, 0);
        x.addRoom(0, 3, true);
        for (int visitor = 0; visitor < 12; visitor++) {
            x.addVisitor(2);
        }
        for (int visitor = 0; visitor < 12; visitor++) {
            int number = visitor;
            String text = "b0:" + (char) ('a' + visitor) + "@" + visitor + ".0";
            Sentence.due(text, () -> Check.perform(x, text), 1);
            Sentence.due("visitor " + visitor, () -> x.visit(number, 1), 1 << number);
        }
        for (int other : new int[] {'a' - 1, 'l' + 1, 'z', 'A', 'L', '0', '@', 0, 'a' + 256, 0xffff}) {
            error("b0:" + (char) other + "@5.3", 3);
            if (other != '@') {
                error("b0:b" + (char) other + "@5.3", 4);
                error("b0:bc" + (char) other + "@5.3", 5);
            }
        }

        Sentence.of(32, "A letter of a visitor who does not exist is right in form.");
        for (String text : new String[] {"b0:e@5.3", "b0:l@5.3", "b0:al@5.3", "b0:ael@5.3"}) {
            Sentence.refused(text, Desks.QUIET, y -> Check.perform(y, text), UNSUPPORTED);
        }
        error("b0:l@5.3!", 8);
    }

    private static void letterTwice() {
        Sentence.of(32, "a letter that stands a second time, and a fourth letter, cannot continue it.");
        error("b0:aa@5.3", 4);
        error("b0:ll@5.3", 4);
        error("b0:aba@5.3", 5);
        error("b0:abb@5.3", 5);
        error("b0:abcd@5.3", 6);
        error("b0:abca@5.3", 6);
        error("b0:aa", 4);
        error("b0:abcd", 6);
        right("b0:a@5.3;b0:a@6.3");

        Sentence.of(32, "b books a visit of an inmate with some visitors, in which at most 3 different letters can stand");
        for (String letters : new String[] {"a", "b", "ab", "ba", "abc", "cab", "bca"}) {
            VisitBooking x = Desks.withRoom();
            Sentence.due(letters, () -> Check.perform(x, "b0:" + letters + "@5.3"), 1);
            int set = 0;
            for (char letter : letters.toCharArray()) {
                set |= 1 << letter - 'a';
            }
            int due = set;
            Sentence.due("the set of " + letters, () -> x.visit(0, 1), due);
        }
    }

    private static void afterACommand() {
        Sentence.of(32, "`text = command { \";\" command`}");
        String[] commands = {"b0:a@5.3", "b0:abc@05.3", "x1", "x12", "m0/1"};
        for (String command : commands) {
            int end = command.length();
            right(command);
            for (String next : commands) {
                right(command + ";" + next);
                error(command + ";" + next + ";", end + 2 + next.length());
                error(command + next, end + (command.equals("x1") && Character.isDigit(next.charAt(0)) ? 1 : 0));
            }
            for (int other : new int[] {':', '<', ',', ' ', 0, ';' + 256, '.', '@'}) {
                error(command + (char) other, end);
                error(command + ";" + (char) other, end + 1);
            }
            error(command + ";;" + command, end + 1);
            error(";" + command, 0);
            error(" " + command, 0);
        }
    }

    private static void lastCharacter() {
        Sentence.of(32, "The error position of a text is the offset, from 0, of the first character that cannot continue");
        error(MOVES + "m0/1;", 80);
        error(MOVES + "m0/11", 79);
        error(MOVES + "m0/;m", 78);
        error(MOVES + "b0:ab", 80);
        error(MOVES + "b0:aa", 79);
        error("!" + MOVES + "m0/", 0);
        Sentence.due("80 characters that are right", () -> Check.perform(Desks.QUIET.make(), MOVES.substring(0, 70)
                + "b0:ab@5.3"), 15);
        Sentence.due("80 characters with a longer number", () -> Check.perform(Desks.QUIET.make(),
                MOVES.substring(0, 70) + "b0:ab@05.3"), 15);

        Sentence.of(32, "-100 minus the error position after a syntax error.");
        error("?", 0);
        error("m?", 1);
    }

    private static void mostCommands() {
        Sentence.of(32, "Returns the number of commands");
        for (int commands = 1; commands <= 16; commands++) {
            String text = (MOVES + "m0/0;").substring(0, 5 * commands - 1);
            int due = commands;
            Sentence.due(text, () -> Check.perform(Desks.QUIET.make(), text), due);
        }
        StringBuilder most = new StringBuilder("x0");
        for (int k = 1; k < 27; k++) {
            most.append(";x").append(k % 10);
        }
        Sentence.due("27 commands have 80 characters", () -> most.length(), 80);
        Sentence.refused("27 commands, of which the 11th cannot be carried out", BoundariesOfTexts::twentyVisits,
                x -> Check.perform(x, most.toString()), UNSUPPORTED);
        Sentence.due("20 commands", () -> Check.perform(twentyVisits(),
                "x0;x1;x2;x3;x4;x5;x6;x7;x8;x9;x10;x11;x12;x13;x14;x15;x16;x17;x18;x19"), 20);
        Sentence.reads("a 27th that is wrong", BoundariesOfTexts::twentyVisits,
                x -> Check.perform(x, most.substring(0, 79) + "!"), -179);
    }

    private static VisitBooking twentyVisits() {
        VisitBooking x = Desks.withRoom();
        Desks.bookLawyer(x, 20, 5);
        return x;
    }

    // ---- promise 32, what the commands do

    private static void numberOfCommands() {
        Sentence.of(32, "Parses the input buffer as a text of commands and carries them out in their order");
        VisitBooking x = Desks.withRoom();
        Sentence.due("a visit that was booked is cancelled", () -> Check.perform(x, "b0:a@5.3;x0;b0:b@5.3"), 3);
        Sentence.due("the first one", () -> x.visit(0, 5), 2);
        Sentence.due("the second one", () -> x.visit(1, 5), 0);
        Sentence.due("moved there and back", () -> Check.perform(x, "m0/3;m0/1;m0/2"), 3);
        Sentence.due("the last one", () -> x.inmate(0, 0), 2);

        Sentence.of(32, "x cancels a visit");
        Sentence.due("the second one", () -> Check.perform(x, "x1"), 1);
        Sentence.due("it is cancelled", () -> x.visit(1, 5), 2);

        Sentence.of(32, "m moves an inmate to a wing.");
        for (int wing = 0; wing <= 3; wing++) {
            int to = wing;
            Sentence.due("to wing " + wing, () -> Check.perform(x, "m0/" + to), 1);
            Sentence.due("in wing " + wing, () -> x.inmate(0, 0), to);
        }
    }

    private static void asBookDoes() {
        Sentence.of(32, "as book, cancel and move do, all of them or none.");
        VisitBooking x = Desks.wide();
        VisitBooking y = Desks.wide();
        x.book(0, 7, 5, 3);
        x.book(1, 8, 5, 3);
        Check.perform(y, "b0:abc@5.3;b1:d@5.3");
        Sentence.due("two visits", () -> Views.brief(y), Views.brief(x));
        Sentence.due("the greatest numbers", () -> {
            VisitBooking z = new VisitBooking();
            for (int k = 0; k < 12; k++) {
                z.addVisitor(k % 3);
            }
            for (int k = 0; k < 10; k++) {
                z.addInmate(k % 4, 2);
            }
            z.addRoom(0, 3, true);
            Check.perform(z, "b9:jkl@55.3");
            return z.visit(0, 0) * 100000 + z.visit(0, 1) * 10 + z.visit(0, 3);
        }, 9 * 100000 + (7 << 9) * 10 + 3);
    }

    private static void asCancelDoes() {
        Sentence.of(32, "as book, cancel and move do, all of them or none.");
        VisitBooking x = Desks.withRoom();
        Desks.bookLawyer(x, 4, 5);
        x.wish(0, 1, 5, 5);
        x.wish(0, 2, 5, 5);
        Sentence.due("one is cancelled", () -> Check.perform(x, "x2;m0/0"), 2);
        Sentence.due("a wish is booked", () -> x.account(9), 1);
        Sentence.due("where it was", () -> x.visit(4, 3), 2);
        Sentence.due("a notice", () -> x.notice(0, true) * 10 + x.notice(0, false), 34);
        Sentence.due("what was booked for a wish is cancelled, too", () -> Check.perform(x, "x4"), 1);
        Sentence.due("the other wish", () -> x.visit(5, 1), 2);
    }

    private static void asMoveDoes() {
        Sentence.of(32, "as book, cancel and move do, all of them or none.");
        VisitBooking x = Desks.wide();
        x.book(0, 4, 5, 0);
        Sentence.due("moved", () -> Check.perform(x, "m0/3;m0/3;m0/1"), 3);
        Sentence.due("two notices", () -> x.account(10), 2);
        Sentence.due("the room", () -> x.visit(0, 4), 1);
        x.setOpen(1, false);
        x.setOpen(1, true);
        Sentence.due("to the same wing", () -> Check.perform(x, "m0/1") + "" + x.visit(0, 4), "11");
    }

    private static void allOrNone() {
        Sentence.of(32, "all of them or none.");
        String[] right = {"b0:b@5.3;", "x1;", "m0/3;", "m1/0;", "x3;x1;", "b2:a@9.0;m2/0;"};
        String[] wrong = {"x0", "x9", "m5/0", "b5:a@5.3", "b0:e@5.3"};
        for (String first : right) {
            for (String last : wrong) {
                Sentence.refused(first + last, Desks.QUIET, x -> Check.perform(x, first + last), UNSUPPORTED);
            }
        }
        Sentence.refused("the first one", Desks.QUIET, x -> Check.perform(x, "x0;m0/3"), UNSUPPORTED);
        Sentence.refused("one with wishes", Desks.QUIET, x -> Check.perform(x, "x1;x3;m1/3;x3"), UNSUPPORTED);
        Sentence.reads("one that is wrong in form", Desks.QUIET, x -> Check.perform(x, "x1;m0/3;"), -108);
    }

    private static void emptyAfterwards() {
        Sentence.of(32, "The buffer is empty afterwards, also after an error or an exception.");
        String[] texts = {"m0/1", "m0/1;", "", "x0", "b0:a@0.0", MOVES + "m0/1;", MOVES + "m0/99"};
        for (String text : texts) {
            VisitBooking x = Desks.QUIET.make();
            String got = Check.outcome(() -> Check.perform(x, text));
            Sentence.due("\"" + text + "\", " + got + ", the next character", () -> x.feed('m'), 1);
            Check.feed(x, "1/3");
            Sentence.due("the next text", () -> x.perform() * 10 + x.inmate(1, 0), 13);
            Sentence.due("and then", () -> x.perform(), -100);
        }
    }

    // ---- promise 32, exceptions

    private static void refusedCommands() {
        Sentence.of(32, "if that was a booking that is refused, this leaves a report");
        Sentence.leavesReport("the day is over", Desks.QUIET, x -> Check.perform(x, "b0:a@0.3"), 99, 0, 0, 3, 1, 1);
        Sentence.leavesReport("a ban", Desks.QUIET, x -> Check.perform(x, "b0:d@10.0"), 99, 0, 0, 40, 2, 0);
        Sentence.leavesReport("busy", Desks.QUIET, x -> Check.perform(x, "m0/3;b0:b@4.3"), 99, 1, 0, 19, 4, 3);
        Sentence.leavesReport("busy by a command", Desks.QUIET, x -> Check.perform(x, "b0:a@9.1;b1:a@9.1"), 99, 1, 1, 37,
                5, 0);
        Sentence.leavesReport("no room", Desks.QUIET, x -> Check.perform(x, "b2:ab@9.1;b2:a@10.0;b0:a@10.0;b1:abc@10.0"),
                99, 2, 0, 40, 5, 0);
        Sentence.leavesReport("a quota", () -> {
            VisitBooking x = Desks.withRoom();
            x.setLevel(0, 0);
            return x;
        }, x -> Check.perform(x, "b0:a@6.0;b0:a@7.0;b0:a@6.3"), 99, 2, 0, 27, 3, 1);
        Sentence.leavesReport("60 visits", () -> {
            VisitBooking x = Desks.withRoom();
            Desks.bookLawyer(x, 59, 0);
            return x;
        }, x -> Check.perform(x, "b0:a@55.2;b0:a@55.3"), 99, 1, 0, 223, 8, 60);
    }

    private static void numberOfTheCommand() {
        Sentence.of(32, "with 99 and the number of the command, from 0.");
        String booking = "b0:a@0.0";
        for (int ahead = 0; ahead <= 14; ahead++) {
            String text = MOVES.substring(0, 5 * ahead) + booking;
            Sentence.leavesReport(text, Desks.QUIET, x -> Check.perform(x, text), 99, ahead, 0, 0, 1, 1);
        }
        Sentence.leavesReport("behind 20 commands", () -> {
            VisitBooking x = Desks.withRoom();
            Desks.bookLawyer(x, 20, 5);
            x.setLevel(0, 0);
            x.set(0, 0);
            return x;
        }, x -> Check.perform(x, "x0;x1;x2;x3;x4;x5;x6;x7;x8;x9;x10;x11;x12;x13;x14;x15;x16;x17;x18;x19;b0:a@9.0"),
                99, 20, 0, 36, 3, 0);
    }

    private static void otherExceptions() {
        Sentence.of(32, "Throws `UnsupportedOperationException` if the text is correct, and one of the methods throws");
        String[] texts = {"b5:a@5.3", "b9:a@5.3", "b0:e@5.3", "b0:l@5.3", "b0:ade@5.3", "b0:a@56.3", "b0:a@99.3",
            "b0:a@5.4", "b0:a@5.9", "b9:l@99.9", "x6", "x06", "x60", "x99", "x0", "x2", "m5/0", "m9/0", "m0/4", "m0/9",
            "m9/9", "x1;x1", "b0:e@0.0", "b0:a@0.4"};
        for (String text : texts) {
            Sentence.refused(text, Desks.QUIET, x -> Check.perform(x, text), UNSUPPORTED);
            Sentence.refused("behind another one, " + text, Desks.QUIET, x -> Check.perform(x, "m1/3;" + text),
                    UNSUPPORTED);
        }
        for (String text : new String[] {"b0:a@0.0", "x0", "m0/0"}) {
            Sentence.refused("on a new desk, " + text, Desks.EMPTY, x -> Check.perform(x, text), UNSUPPORTED);
        }
    }

    private static void earlierReport() {
        Sentence.of(32, "An exception of a command that is no refusal leaves the earlier report.");
        VisitBooking x = Desks.withRoom();
        x.book(0, 1, 5, 0);
        Check.outcome(() -> Check.perform(x, "m0/0;b0:b@5.0"));
        int[] due = {99, 1, 0, 20, 4, 0};
        Sentence.reported("a command", x, due);
        for (String text : new String[] {"b1:a@5.3", "b0:d@5.3", "x1", "m1/0", "m0/4", "b0:a@56.0", "b0:b@5.1", "x1;x1", "!"}) {
            Check.outcome(() -> Check.perform(x, text));
            Sentence.reported("behind " + text, x, due);
        }
        Check.outcome(() -> Check.perform(x, "x0;b0:b@5.4"));
        Sentence.reported("behind a visit that was cancelled", x, due);
    }
}
