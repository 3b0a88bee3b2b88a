/** Objects that tests begin with. */
final class Samples {
    private Samples() {
    }

    static void fill(AbbeyLedgers x, String text) {
        for (int i = 0; i < text.length(); i++) {
            x.append(text.charAt(i));
        }
    }

    /** Tries a call that may throw what the document lets it throw. */
    static void attempt(Runnable call) {
        try {
            call.run();
        } catch (IllegalArgumentException | IllegalStateException | UnsupportedOperationException e) {
            // What stays after it is what a test looks at.
        }
    }

    static int run(AbbeyLedgers x, String text) {
        fill(x, text);
        return x.commands();
    }

    /**
     * The versions 1 to 4 as a tree: 1 and 2 of the house 0, then, in the year 2, 3 from 2 by the house 1, and 4 from 1
     * by the house 0.
     */
    static AbbeyLedgers tree() {
        AbbeyLedgers x = new AbbeyLedgers();
        x.write(0, 3, 120);
        x.write(0, 15, 7);
        x.fork(1, 0);
        x.pass(2);
        x.write(1, 3, 5);
        x.back(0, 1);
        x.write(0, 4, 9);
        return x;
    }

    /** The versions 1 to 39 in a row, of the house 0, each with its number on the line 0. */
    static AbbeyLedgers full() {
        AbbeyLedgers x = new AbbeyLedgers();
        for (int version = 1; version < 40; version++) {
            x.write(0, 0, version);
        }
        return x;
    }

    /** The versions 1 to 16 in a row, of the house 0, each with one line more. */
    static AbbeyLedgers stairs() {
        AbbeyLedgers x = new AbbeyLedgers();
        for (int line = 0; line < 16; line++) {
            x.write(0, line, 1 << line % 9);
        }
        return x;
    }

    /** The tree with all that an object can keep: a snapshot, the reason 7 2 1, the fault 3, a line and a text. */
    static AbbeyLedgers marked() {
        AbbeyLedgers x = tree();
        x.save();
        x.write(2, 8, 77);
        x.undo();
        attempt(() -> run(x, "y3;b0*9"));
        attempt(() -> run(x, "y1;"));
        x.line(2);
        fill(x, "y4;f3<1");
        return x;
    }

    /** The same with an empty text buffer. */
    static AbbeyLedgers markedWithoutText() {
        AbbeyLedgers x = marked();
        x.commands();
        x.undo();
        attempt(() -> run(x, "y1;"));
        return x;
    }

    static String row(int most, String separator) {
        StringBuilder text = new StringBuilder();
        for (int number = most; number >= 0; number--) {
            text.append(number == most ? "" : separator).append(number);
        }
        return text.toString();
    }
}
