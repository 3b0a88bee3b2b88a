/** What can be seen of an object; all of these together are fewer calls than an object is used for. */
final class Seen {
    private Seen() {
    }

    static String ledgers(AbbeyLedgers x) {
        return x.ledger(0) + " " + x.ledger(1) + " " + x.ledger(2) + " " + x.ledger(3);
    }

    static String accounts(AbbeyLedgers x) {
        StringBuilder text = new StringBuilder();
        for (int what = 0; what <= 8; what++) {
            text.append(what == 0 ? "" : " ").append(x.account(what));
        }
        return text.toString();
    }

    static String numbers(AbbeyLedgers x, int version) {
        StringBuilder text = new StringBuilder();
        for (int what = 0; what <= 6; what++) {
            text.append(what == 0 ? "" : " ").append(x.versionOf(version, what));
        }
        return text.toString();
    }

    static String makers(AbbeyLedgers x, int version) {
        StringBuilder text = new StringBuilder();
        for (int span = 0; span < 31; span++) {
            text.append(span == 0 ? "" : " ").append(x.maker(version, span));
        }
        return text.toString();
    }

    static String amounts(AbbeyLedgers x, int version) {
        StringBuilder text = new StringBuilder();
        for (int line = 0; line < 16; line++) {
            text.append(line == 0 ? "" : " ").append(x.amount(version, line));
        }
        return text.toString();
    }

    /** A version with its amounts and its pages. */
    static String version(AbbeyLedgers x, int version) {
        return x.versionOf(version, 0) + " " + x.versionOf(version, 1) + "|" + amounts(x, version) + "|"
            + makers(x, version);
    }

    /** The ledgers, the accounts, and each version with its parent, its year and its sum. */
    static String state(AbbeyLedgers x) {
        StringBuilder text = new StringBuilder(ledgers(x)).append('|').append(accounts(x));
        int versions = x.account(0);
        for (int version = 0; version < versions; version++) {
            text.append('|').append(x.versionOf(version, 0)).append(' ').append(x.versionOf(version, 1)).append(' ')
                .append(x.sum(version, 0, 15));
        }
        return text.toString();
    }

    /** The reason, its detail and the index of the command. */
    static String reason(AbbeyLedgers x) {
        return told(() -> x.reason(0) + " " + x.reason(1) + " " + x.reason(2));
    }

    /** The line that was written last. */
    static String line(AbbeyLedgers x) {
        StringBuilder text = new StringBuilder();
        try {
            for (int index = 0; index < 200; index++) {
                text.append(x.character(index));
            }
        } catch (IndexOutOfBoundsException e) {
            return text.toString();
        }
        return "a line without an end";
    }

    /** What the text in the buffer, all that can be undone, and the snapshot bring; the object is another one then. */
    static String hidden(AbbeyLedgers x) {
        StringBuilder text = new StringBuilder(told(() -> x.commands() + " commands"));
        text.append(", ").append(x.faultPosition()).append('|').append(ledgers(x)).append('|').append(accounts(x));
        for (int call = 0; call < 9; call++) {
            text.append('|').append(told(() -> x.undo() + " left, " + ledgers(x) + "|" + accounts(x)));
        }
        return text.append('|').append(told(() -> x.restore() + " restored, " + ledgers(x))).append('|')
            .append(accounts(x)).toString();
    }

    private interface Reading {
        String read();
    }

    private static String told(Reading reading) {
        try {
            return reading.read();
        } catch (RuntimeException e) {
            return e.getClass().getSimpleName();
        }
    }
}
