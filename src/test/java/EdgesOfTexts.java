import java.util.ArrayList;
import java.util.List;

/** What the terms say of texts, and the promises 26 to 29: the text buffer, its commands, faults and reasons. */
final class EdgesOfTexts {
    private static final String LONGEST = "y1;y1;y1;y1;y1;y1;y1;y1;y1;y1;y1;y1;y1;y1;y1;y1;y1;y1;y1;y01";

    /** Below each character of a command stands what may come in its place: d for digits, e for the end. */
    private static final String[][] COMMANDS = {
        {"w3/12=345", "wgfby", "d", "/", "d", "d=", "=", "d", "de", "de", "e"},
        {"w0/1=2", "wgfby", "d", "/", "d", "d=", "d", "de"},
        {"g2/10:11-12", "wgfby", "d", "/", "d", "d:", ":", "d", "d-", "-", "d", "de", "e"},
        {"g2/1:0-1", "wgfby", "d", "/", "d", "d:", "d", "d-", "d", "de"},
        {"f1<0", "wgfby", "d", "<", "d", "e"},
        {"b3*39", "wgfby", "d", "*", "d", "de", "e"},
        {"y99", "wgfby", "d", "de", "e"}};

    private EdgesOfTexts() {
    }

    private static int fault(String text) {
        AbbeyLedgers x = Samples.tree();
        Samples.fill(x, text);
        try {
            x.commands();
        } catch (IllegalArgumentException e) {
            return x.faultPosition();
        } catch (UnsupportedOperationException e) {
            // Whether it is refused is of no account here.
        }
        Check.same("no fault of " + text, x.faultPosition(), -1);
        return -1;
    }

    private static void faults(int due, String... texts) {
        for (String text : texts) {
            Check.same("fault of <" + text + ">", fault(text), due);
        }
    }

    private static boolean isOneOf(char sign, String places) {
        boolean isDigit = sign >= '0' && sign <= '9';
        return isDigit ? places.indexOf('d') >= 0 : sign == ';' ? places.indexOf('e') >= 0 : isSign(sign, places);
    }

    private static boolean isSign(char sign, String places) {
        return places.indexOf(sign) >= 0 && (places.equals("wgfby") || sign != 'd' && sign != 'e');
    }

    // Texts

    @Edge(promise = 27, says = "The text buffer holds one or more commands with \";\" between them")
    static void fromOneCommandOnWithSignsBetween() {
        Check.textFails("", 0, Samples::markedWithoutText);
        Check.same("one command", Samples.run(new AbbeyLedgers(), "y1"), 1);
        Check.same("two commands", Samples.run(new AbbeyLedgers(), "y1;y1"), 2);
        Check.same("as many as there is room for", Samples.run(new AbbeyLedgers(), LONGEST), 20);
        Check.textFails(";", 0, Samples::markedWithoutText);
        Check.textFails("y1;", 3, Samples::markedWithoutText);
        Check.textFails("y1;;y1", 3, Samples::markedWithoutText);
        Check.textFails(";y1", 0, Samples::markedWithoutText);
        Check.textFails("y1y1", 2, Samples::markedWithoutText);
        Check.textFails("y11,y1", 3, Samples::markedWithoutText);
        Check.textFails("y1 ;y1", 2, Samples::markedWithoutText);
    }

    @Edge(promise = {2, 27}, says = "\"w\", a house, \"/\", a line, \"=\" and an amount writes")
    static void textsThatWriteAtTheEnds() {
        AbbeyLedgers x = new AbbeyLedgers();
        Check.same("commands", Samples.run(x, "w0/0=1;w3/15=999;w0/0=0"), 3);
        Check.same("ledgers", Seen.ledgers(x), "3 0 0 2");
        Check.same("amounts", Check.lineOf(x, 1) + "|" + Check.lineOf(x, 2) + "|" + Check.lineOf(x, 3),
            "0=1|15=999|");
        Check.textRefused("w4/0=1", 1, 0, 0, Samples::markedWithoutText);
        Check.textRefused("w9/0=1", 1, 0, 0, Samples::markedWithoutText);
        Check.textRefused("w0/16=1", 1, 0, 0, Samples::markedWithoutText);
        Check.textRefused("w0/99=1", 1, 0, 0, Samples::markedWithoutText);
    }

    @Edge(promise = {3, 27}, says = "\"g\", a house, \"/\", a version, \":\", a line, \"-\" and a line grafts")
    static void textsThatGraftAtTheEnds() {
        AbbeyLedgers x = Samples.stairs();
        Check.same("commands", Samples.run(x, "g1/16:0-15;g1/0:0-0;g3/1:0-0;g0/0:15-15"), 4);
        Check.same("ledgers", Seen.ledgers(x), "20 18 0 19");
        Check.same("amounts", x.apart(18, 16) + " " + x.apart(19, 0) + " " + x.apart(20, 16), "1 1 1");
        Check.textRefused("g4/3:0-15", 1, 0, 0, Samples::markedWithoutText);
        Check.textRefused("g0/3:16-15", 1, 0, 0, Samples::markedWithoutText);
        Check.textRefused("g0/3:0-16", 1, 0, 0, Samples::markedWithoutText);
        Check.textRefused("g0/5:0-15", 4, 5, 0, Samples::markedWithoutText);
        Check.textRefused("g0/99:0-15", 4, 5, 0, Samples::markedWithoutText);
        Check.textRefused("g0/3:15-0", 5, 15, 0, Samples::markedWithoutText);
        Check.textRefused("g0/4:0-15", 3, 4, 0, Samples::markedWithoutText);
    }

    @Edge(promise = {4, 27}, says = "\"f\", a house, \"<\" and a house forks")
    static void textsThatForkAtTheEnds() {
        AbbeyLedgers x = Samples.tree();
        Check.same("commands", Samples.run(x, "f3<0;f0<1"), 2);
        Check.same("ledgers", Seen.ledgers(x), "3 3 0 4");
        Check.textRefused("f4<0", 1, 0, 0, Samples::markedWithoutText);
        Check.textRefused("f0<4", 1, 0, 0, Samples::markedWithoutText);
        Check.textRefused("f3<3", 6, 3, 0, Samples::markedWithoutText);
        Check.textRefused("f3<2", 3, 0, 0, Samples::markedWithoutText);
    }

    @Edge(promise = {5, 27}, says = "\"b\", a house, \"*\" and a number goes back")
    static void textsThatGoBackAtTheEnds() {
        AbbeyLedgers x = Samples.full();
        Check.same("commands", Samples.run(x, "f3<0;b0*1;b3*39"), 3);
        Check.same("ledgers", Seen.ledgers(x), "38 0 0 0");
        Check.textRefused("b4*1", 1, 0, 0, Samples::markedWithoutText);
        Check.textRefused("b0*0", 1, 0, 0, Samples::markedWithoutText);
        Check.textRefused("b0*40", 1, 0, 0, Samples::markedWithoutText);
        Check.textRefused("b0*39", 7, 2, 0, Samples::markedWithoutText);
    }

    @Edge(promise = {6, 27}, says = "and \"y\" and a number lets years go by")
    static void textsThatLetYearsGoByAtTheEnds() {
        AbbeyLedgers x = new AbbeyLedgers();
        Check.same("commands", Samples.run(x, "y1;y98"), 2);
        Check.same("year", x.account(1), 99);
        Check.same("commands", Samples.run(new AbbeyLedgers(), "y99"), 1);
        Check.textRefused("y0", 1, 0, 0, Samples::markedWithoutText);
        Check.textRefused("y00", 1, 0, 0, Samples::markedWithoutText);
        Check.textRefused("y98", 8, 1, 0, Samples::markedWithoutText);
    }

    @Edge(promise = {27, 28}, says = "Houses have one digit, amounts 1 to 3, all else 1 or 2.")
    static void tooFewAndTooManyDigits() {
        faults(1, "w", "w/3=1", "g/1:2-3", "f<1", "b*1", "y", "y;y1");
        faults(2, "w00/3=1", "g00/1:2-3", "f00<1", "b00*1");
        faults(3, "w0/=1", "g0/:2-3", "f0<", "f0<;y1", "b0*", "y100", "y001");
        faults(4, "f0<11");
        faults(5, "w0/003=1", "g0/001:2-3", "g0/1:-3", "b0*001", "w0/3=", "w0/3=;y1");
        faults(7, "g0/1:002-3", "g0/1:2-", "g0/1:2-;y1");
        faults(8, "w0/3=1234", "w0/3=0001");
        faults(9, "g0/1:2-003");
        faults(-1, "w0/3=1", "w0/03=1", "w0/3=001", "w0/03=123", "g0/1:2-3", "g0/01:02-03", "g0/99:99-99", "b0*1",
            "b0*01", "y1", "y01", "f9<9", "w9/99=999");
    }

    @Edge(promise = {27, 28}, says = "The fault position of a text is the index of its first character that cannot "
        + "continue such a text, or the length of the text if it ends too early.")
    static void theFaultAtEachPlaceOfEachCommand() {
        List<Character> signs = new ArrayList<>();
        for (char sign = 0; sign < 128; sign++) {
            signs.add(sign);
        }
        signs.addAll(List.of((char) 0x131, (char) 0x660, (char) 0xff10, (char) 0xff1b, (char) 0xffff));
        for (String[] command : COMMANDS) {
            for (int at = 0; at < command.length - 1; at++) {
                String start = command[0].substring(0, at);
                boolean canEnd = command[at + 1].indexOf('e') >= 0;
                faults(canEnd ? -1 : at, start);
                for (char sign : signs) {
                    if (!isOneOf(sign, command[at + 1])) {
                        faults(at, start + sign, start + sign + "1");
                        faults(at + 3, "y1;" + start + sign);
                    }
                }
            }
        }
    }

    @Edge(promise = {27, 28}, says = "or the length of the text if it ends too early")
    static void textsThatEndTooEarly() {
        faults(0, "");
        faults(3, "y1;", "f0<");
        faults(4, "y1;y", "y11;");
        faults(58, LONGEST.substring(0, 57) + "y");
        faults(-1, LONGEST.substring(0, 57) + "y1");
        faults(60, LONGEST.substring(0, 57) + "y1;", LONGEST.substring(0, 54) + "w0/15=");
    }

    @Edge(promise = 27, says = "The commands are carried out as the methods would, all of them or none.")
    static void aTextDoesWhatTheMethodsDo() {
        AbbeyLedgers x = new AbbeyLedgers();
        Check.same("commands", Samples.run(x, "w3/15=999;g1/1:0-15;f2<3;w2/0=1;b2*1;y99"), 6);
        AbbeyLedgers y = new AbbeyLedgers();
        y.write(3, 15, 999);
        y.graft(1, 1, 0, 15);
        y.fork(2, 3);
        y.write(2, 0, 1);
        y.back(2, 1);
        y.pass(99);
        Check.same("what can be undone", x.account(7) + " " + y.account(7), "1 6");
        for (int call = 0; call < 6; call++) {
            y.undo();
        }
        Samples.run(y, "w3/15=999;g1/1:0-15;f2<3;w2/0=1;b2*1;y99");
        Check.same("state", Seen.state(y), Seen.state(x));
        Check.same("state", Seen.state(x), "0 2 1 1|4 99 41 3 2 2 1 1 0|-1 0 0|0 0 999|0 0 999|1 0 1000");
    }

    // Promise 26

    @Edge(promise = 26, says = "Throws `IllegalStateException` if the buffer contains 60 characters")
    static void appendToAFullBuffer() {
        AbbeyLedgers x = new AbbeyLedgers();
        for (int length = 1; length <= 60; length++) {
            Check.same("append", x.append((char) (length * 1091)), length);
        }
        Check.same("characters", x.account(8), 60);
        for (char sign : new char[] {'1', ';', 0, 0xffff}) {
            Check.noState("append " + (int) sign + " to 60", () -> {
                AbbeyLedgers y = new AbbeyLedgers();
                Samples.fill(y, LONGEST);
                return y;
            }, y -> y.append(sign));
        }
    }

    @Edge(promise = 26, says = "Returns the new length of the buffer.")
    static void appendToAnEmptyBuffer() {
        AbbeyLedgers x = Samples.markedWithoutText();
        Check.same("the first character", x.append('y'), 1);
        Check.same("the second character", x.append('1'), 2);
        x.commands();
        Check.same("the first character again", x.append((char) 0), 1);
        AbbeyLedgers full = new AbbeyLedgers();
        Samples.fill(full, LONGEST);
        full.commands();
        Check.same("after a full buffer", full.append('y'), 1);
    }

    // Promise 27

    @Edge(promise = 27, says = "Carries out the commands in the text buffer, one after the other")
    static void aCommandFindsWhatTheOnesBeforeItMade() {
        AbbeyLedgers x = new AbbeyLedgers();
        Check.same("commands", Samples.run(x, "w0/3=5;g1/1:3-3;w1/3=0;y2;w1/3=5"), 5);
        Check.same("state", Seen.state(x), "1 4 0 0|5 2 50 3 2 3 1 1 0|-1 0 0|0 0 5|0 0 5|2 0 0|3 2 5");
        Check.textRefused("w0/3=5;g1/2:3-3", 4, 2, 1, AbbeyLedgers::new);
        Check.textRefused("w0/3=5;w0/3=5", 3, 1, 1, AbbeyLedgers::new);
        Check.textRefused("w0/3=5;b0*2", 7, 1, 1, AbbeyLedgers::new);
        Check.textRefused("y60;y60", 8, 21, 1, AbbeyLedgers::new);
    }

    @Edge(promise = 27, says = "if one is refused, none is carried out")
    static void aRefusedCommandAtTheStartWithinAndAtTheEnd() {
        Check.textRefused("f2<2;w0/0=1;y5", 6, 2, 0, Samples::markedWithoutText);
        Check.textRefused("w0/0=1;f2<2;y5", 6, 2, 1, Samples::markedWithoutText);
        Check.textRefused("w0/0=1;y5;f2<2", 6, 2, 2, Samples::markedWithoutText);
        Check.textRefused("w3/1=2;g0/5:0-3;b3*1;f3<1;y9;y99", 8, 11, 5, Samples::markedWithoutText);
        Check.textRefused("y1;b0*1;w0/0=1", 2, 0, 2, Samples::full);
        AbbeyLedgers x = new AbbeyLedgers();
        Check.textRefused("w0/3=5;w1/3=5;w1/3=5", 3, 2, 2, AbbeyLedgers::new);
        Samples.attempt(() -> Samples.run(x, "w0/3=5;w1/3=5;w1/3=5"));
        Check.same("the version 1 comes after all", x.write(2, 9, 7), 1);
        Check.same("it has nothing of what was refused", Check.lineOf(x, 1), "9=7");
    }

    @Edge(promise = 27, says = "if one is refused, none is carried out")
    static void aRefusedTextWithEightChangesBeforeIt() {
        Check.textRefused("w0/0=7;y50;y60", 8, 20, 2, () -> {
            AbbeyLedgers x = new AbbeyLedgers();
            for (int year = 1; year <= 9; year++) {
                x.pass(1);
            }
            return x;
        });
    }

    @Edge(promise = 27, says = "The buffer is empty afterwards, also if an exception is thrown.")
    static void theBufferIsEmptyAfterEachText() {
        AbbeyLedgers x = new AbbeyLedgers();
        Samples.run(x, "y1");
        Check.same("after a text", x.account(8), 0);
        for (String text : new String[] {"y99", "z", "y1;", LONGEST.replace(';', ':'), "y5;f0<0"}) {
            Samples.fill(x, text);
            try {
                x.commands();
                Check.that(text + " throws", false);
            } catch (IllegalArgumentException | UnsupportedOperationException e) {
                Check.same("characters after " + text, x.account(8), 0);
            }
        }
        Check.same("the next text is one by itself", Samples.run(x, "y2"), 1);
        Check.same("year", x.account(1), 3);
        Check.textFails("", 0, () -> {
            AbbeyLedgers y = Samples.markedWithoutText();
            Samples.run(y, "y1");
            return y;
        });
    }

    @Edge(promise = 27, says = "Returns the number of commands.")
    static void fromOneCommandToTwenty() {
        Check.same("one", Samples.run(new AbbeyLedgers(), "y1"), 1);
        Check.same("twenty", Samples.run(new AbbeyLedgers(), LONGEST), 20);
    }

    @Edge(promise = 27, says = "Throws `IllegalArgumentException` if the text has a fault")
    static void aFaultGoesAheadOfARefusal() {
        Check.textFails("f2<2;", 5, Samples::markedWithoutText);
        Check.textFails("w9/3=1;y", 8, Samples::markedWithoutText);
        Check.textFails("w0/0=1;y5;f3<1;z", 15, Samples::markedWithoutText);
    }

    @Edge(promise = 27, says = "Throws `UnsupportedOperationException` if a command is refused; the reason is kept")
    static void theReasonOfATextStays() {
        Check.textRefused("y5;b0*9", 7, 2, 1, Samples::markedWithoutText);
        AbbeyLedgers x = Samples.markedWithoutText();
        Samples.run(x, "y1;y1;y1");
        Check.same("reason after another text", Seen.reason(x), "7 2 1");
    }

    // Promise 28

    @Edge(promise = 28, says = "Returns the fault position of the text of the latest call of commands.")
    static void theFaultStaysUntilTheNextText() {
        AbbeyLedgers x = Samples.markedWithoutText();
        Check.same("fault", x.faultPosition(), 3);
        x.write(2, 0, 1);
        x.undo();
        x.restore();
        x.append('z');
        Check.same("fault after other calls", x.faultPosition(), 3);
        Check.textFails("y", 1, Samples::markedWithoutText);
        Check.textFails("", 0, Samples::markedWithoutText);
    }

    @Edge(promise = 28, says = "or -1 if that text had no fault or there was no such call")
    static void noFault() {
        AbbeyLedgers x = new AbbeyLedgers();
        Check.same("no call", x.faultPosition(), -1);
        x.append('z');
        Check.same("no call with a text that would have a fault", x.faultPosition(), -1);
        AbbeyLedgers y = Samples.markedWithoutText();
        Samples.run(y, "y1");
        Check.same("a text without a fault", y.faultPosition(), -1);
        Check.textRefused("y0", 1, 0, 0, Samples::markedWithoutText);
    }

    // Promise 29

    @Edge(promise = 29, says = "Throws `IllegalArgumentException` if what is not from 0 to 2")
    static void reasonNeedsANumber() {
        for (int what : new int[] {Integer.MIN_VALUE, -1, 3, 4, Integer.MAX_VALUE}) {
            Check.noArgument("reason " + what, Samples::marked, x -> x.reason(what));
            Check.noArgument("reason " + what + " of nothing", AbbeyLedgers::new, x -> x.reason(what));
        }
    }

    @Edge(promise = 29, says = "Throws `NoSuchElementException` if nothing was refused")
    static void reasonOfNothing() {
        for (int what = 0; what <= 2; what++) {
            int number = what;
            Check.noElement("reason " + what, AbbeyLedgers::new, x -> x.reason(number));
            Check.noElement("reason " + what + " after a fault and others", () -> {
                AbbeyLedgers x = Samples.tree();
                x.save();
                Samples.attempt(() -> Samples.run(x, "y1;"));
                x.undo();
                return x;
            }, x -> x.reason(number));
        }
    }

    @Edge(promise = 29, says = "0 for the reason, 1 for its detail, 2 for the index of the command")
    static void theNumbersOfTheReason() {
        AbbeyLedgers x = Samples.marked();
        Check.same("the reason", x.reason(0), 7);
        Check.same("its detail", x.reason(1), 2);
        Check.same("the index", x.reason(2), 1);
    }

    @Edge(promise = 29, says = "Returns a number of the reason that is kept.")
    static void theLatestReasonIsKept() {
        AbbeyLedgers x = Samples.marked();
        Samples.attempt(() -> x.fork(3, 3));
        Check.same("reason", Seen.reason(x), "6 3 0");
        Samples.attempt(() -> x.pass(0));
        Check.same("reason", Seen.reason(x), "1 0 0");
    }
}
