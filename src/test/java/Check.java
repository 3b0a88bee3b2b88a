import java.util.NoSuchElementException;

/** Counts what holds and what does not, and tells the latter. */
final class Check {
    private static int passed = 0;
    private static int failed = 0;

    private Check() {
    }

    static void that(String what, boolean holds) {
        if (holds) {
            passed++;
        } else {
            failed++;
            System.out.println("does not hold: " + what);
        }
    }

    static void same(String what, long got, long due) {
        that(what + " answered " + got + ", due is " + due, got == due);
    }

    static void same(String what, String got, String due) {
        that(what + " answered <" + got + ">, due is <" + due + ">", got.equals(due));
    }

    /** The call throws this very exception, and what can be seen of the object stays. */
    private static void fails(String what, AbbeyLedgers x, Class<?> kind, Runnable call) {
        String before = seen(x);
        throwsIt(what, kind, call);
        same("what is seen after " + what, seen(x), before);
    }

    private static void throwsIt(String what, Class<?> kind, Runnable call) {
        Class<?> thrown = null;
        try {
            call.run();
        } catch (RuntimeException e) {
            thrown = e.getClass();
        }
        that(what + " threw " + thrown + ", due is " + kind, thrown == kind);
    }

    static void noIndex(String what, AbbeyLedgers x, Runnable call) {
        fails(what, x, IndexOutOfBoundsException.class, call);
    }

    static void noArgument(String what, AbbeyLedgers x, Runnable call) {
        fails(what, x, IllegalArgumentException.class, call);
    }

    static void noElement(String what, AbbeyLedgers x, Runnable call) {
        fails(what, x, NoSuchElementException.class, call);
    }

    static void noState(String what, AbbeyLedgers x, Runnable call) {
        fails(what, x, IllegalStateException.class, call);
    }

    static void refused(String what, AbbeyLedgers x, int why, int detail, Runnable call) {
        fails(what, x, UnsupportedOperationException.class, call);
        same("reason of " + what, x.reason(0), why);
        same("detail of " + what, x.reason(1), detail);
        same("command of " + what, x.reason(2), 0);
    }

    /** The text is refused; the buffer is empty before. */
    static void textRefused(AbbeyLedgers x, String text, int why, int detail, int command) {
        String empty = seen(x);
        fill(x, text);
        throwsIt(text, UnsupportedOperationException.class, () -> x.commands());
        same("what is seen after " + text, seen(x), empty);
        same("reason of " + text, x.reason(0), why);
        same("detail of " + text, x.reason(1), detail);
        same("command of " + text, x.reason(2), command);
        same("fault of " + text, x.faultPosition(), -1);
    }

    /** The text has a fault; the buffer is empty before. */
    static void textFails(AbbeyLedgers x, String text, int fault) {
        String empty = seen(x);
        fill(x, text);
        throwsIt(text, IllegalArgumentException.class, () -> x.commands());
        same("what is seen after " + text, seen(x), empty);
        same("fault of " + text, x.faultPosition(), fault);
    }

    static void fill(AbbeyLedgers x, String text) {
        for (int i = 0; i < text.length(); i++) {
            x.append(text.charAt(i));
        }
    }

    static int run(AbbeyLedgers x, String text) {
        fill(x, text);
        return x.commands();
    }

    static String lineOf(AbbeyLedgers x, int version) {
        return script(x, x.line(version));
    }

    static String lineageOf(AbbeyLedgers x, int version) {
        return script(x, x.lineage(version));
    }

    /** Reads a line of this length; one more character must not be there. */
    static String script(AbbeyLedgers x, int length) {
        StringBuilder text = new StringBuilder();
        for (int i = 0; i < length; i++) {
            text.append(x.character(i));
        }
        boolean ends = false;
        try {
            x.character(length);
        } catch (IndexOutOfBoundsException e) {
            ends = true;
        }
        that("a line of the length " + length + " ends", ends);
        return text.toString();
    }

    static String makers(AbbeyLedgers x, int version) {
        StringBuilder text = new StringBuilder();
        for (int span = 0; span < 31; span++) {
            text.append(span == 0 ? "" : " ").append(x.maker(version, span));
        }
        return text.toString();
    }

    static String amounts(AbbeyLedgers x, int version) {
        StringBuilder text = new StringBuilder();
        for (int line = 0; line < 16; line++) {
            text.append(line == 0 ? "" : " ").append(x.amount(version, line));
        }
        return text.toString();
    }

    static String ledgers(AbbeyLedgers x) {
        return x.ledger(0) + " " + x.ledger(1) + " " + x.ledger(2) + " " + x.ledger(3);
    }

    /** All of the state but the line, the fault and the reason, by calls that change nothing. */
    static String seen(AbbeyLedgers x) {
        StringBuilder text = new StringBuilder(ledgers(x));
        for (int what = 0; what <= 8; what++) {
            text.append(' ').append(x.account(what));
        }
        for (int version = 0; version < x.account(0); version++) {
            text.append('|').append(x.versionOf(version, 0)).append(' ').append(x.versionOf(version, 1));
            text.append(' ').append(amounts(x, version)).append(' ').append(makers(x, version));
        }
        return text.toString();
    }

    /** Makes the versions 1 to 39 in a row: of the house 0, each with its number on the line 0. */
    static AbbeyLedgers full() {
        AbbeyLedgers x = new AbbeyLedgers();
        for (int version = 1; version < 40; version++) {
            x.write(0, 0, version);
        }
        return x;
    }

    static void end(String test) {
        System.out.println(test + ": " + passed + " passed, " + failed + " failed");
        if (failed > 0) {
            System.exit(1);
        }
    }
}
