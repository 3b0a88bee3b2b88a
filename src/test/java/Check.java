import java.util.NoSuchElementException;
import java.util.function.Consumer;
import java.util.function.Supplier;

/** Counts what holds and what does not, and tells the latter. */
final class Check {
    private static int passed = 0;
    private static int failed = 0;
    private static String test = "";

    private Check() {
    }

    /** What is checked from here on belongs to this test. */
    static void begin(String name) {
        test = name + ": ";
    }

    static void that(String what, boolean holds) {
        if (holds) {
            passed++;
        } else {
            failed++;
            System.out.println(test + "does not hold: " + what);
        }
    }

    static void same(String what, long got, long due) {
        if (got == due) {
            passed++;
        } else {
            that(what + " answered " + got + ", due is " + due, false);
        }
    }

    static void same(String what, String got, String due) {
        if (got.equals(due)) {
            passed++;
        } else {
            that(what + " answered <" + got + ">, due is <" + due + ">", false);
        }
    }

    private static void throwsIt(String what, Class<?> kind, Runnable call) {
        Class<?> thrown = null;
        try {
            call.run();
        } catch (RuntimeException e) {
            thrown = e.getClass();
        }
        that(what + " threw " + thrown + ", due is " + kind, thrown == kind);
    }

    /** The call throws this very exception, and leaves an object like one on which it was not tried. */
    private static void fails(String what, Class<?> kind, Supplier<AbbeyLedgers> made, Consumer<AbbeyLedgers> call) {
        AbbeyLedgers x = made.get();
        throwsIt(what, kind, () -> call.accept(x));
        same("reason after " + what, Seen.reason(x), Seen.reason(made.get()));
        stays(what, x, made.get());
    }

    private static void stays(String what, AbbeyLedgers x, AbbeyLedgers untried) {
        same("fault after " + what, x.faultPosition(), untried.faultPosition());
        staysButForTheFault(what, x, untried);
    }

    private static void staysButForTheFault(String what, AbbeyLedgers x, AbbeyLedgers untried) {
        same("state after " + what, Seen.state(x), Seen.state(untried));
        same("line after " + what, Seen.line(x), Seen.line(untried));
        same("what is hidden after " + what, Seen.hidden(x), Seen.hidden(untried));
    }

    static void noIndex(String what, Supplier<AbbeyLedgers> made, Consumer<AbbeyLedgers> call) {
        fails(what, IndexOutOfBoundsException.class, made, call);
    }

    static void noArgument(String what, Supplier<AbbeyLedgers> made, Consumer<AbbeyLedgers> call) {
        fails(what, IllegalArgumentException.class, made, call);
    }

    static void noElement(String what, Supplier<AbbeyLedgers> made, Consumer<AbbeyLedgers> call) {
        fails(what, NoSuchElementException.class, made, call);
    }

    static void noState(String what, Supplier<AbbeyLedgers> made, Consumer<AbbeyLedgers> call) {
        fails(what, IllegalStateException.class, made, call);
    }

    static void refused(String what, int why, int detail, Supplier<AbbeyLedgers> made, Consumer<AbbeyLedgers> call) {
        AbbeyLedgers x = made.get();
        throwsIt(what, UnsupportedOperationException.class, () -> call.accept(x));
        same("reason of " + what, Seen.reason(x), why + " " + detail + " 0");
        stays(what, x, made.get());
    }

    /** The text is refused as a whole; the buffer of what is made is empty. */
    static void textRefused(String text, int why, int detail, int command, Supplier<AbbeyLedgers> made) {
        AbbeyLedgers x = made.get();
        Samples.fill(x, text);
        throwsIt(text, UnsupportedOperationException.class, () -> x.commands());
        same("reason of " + text, Seen.reason(x), why + " " + detail + " " + command);
        same("fault of " + text, x.faultPosition(), -1);
        staysButForTheFault(text, x, made.get());
    }

    /** The text has a fault there; the buffer of what is made is empty. */
    static void textFails(String text, int fault, Supplier<AbbeyLedgers> made) {
        AbbeyLedgers x = made.get();
        Samples.fill(x, text);
        throwsIt(text, IllegalArgumentException.class, () -> x.commands());
        same("reason after " + text, Seen.reason(x), Seen.reason(made.get()));
        same("fault of " + text, x.faultPosition(), fault);
        staysButForTheFault(text, x, made.get());
    }

    static String lineOf(AbbeyLedgers x, int version) {
        return written(x, x.line(version));
    }

    static String lineageOf(AbbeyLedgers x, int version) {
        return written(x, x.lineage(version));
    }

    private static String written(AbbeyLedgers x, int length) {
        String line = Seen.line(x);
        same("length of the line " + line, length, line.length());
        return line;
    }

    static void end(String name) {
        System.out.println(name + ": " + passed + " passed, " + failed + " failed");
        if (failed > 0) {
            System.exit(1);
        }
    }
}
