import java.util.ArrayList;
import java.util.List;

/** Promises 36 to 38: undo, save and restore. */
final class PastTest {
    public static void main(String[] args) {
        undoEachKind();
        undoThenGoOn();
        saveAndRestore();
        restoreWhatWasUndone();
        restoreAfterOtherVersions();
        restoreCounts();
        Check.end("PastTest");
    }

    private static void undoEachKind() {
        AbbeyLedgers x = new AbbeyLedgers();
        List<String> seen = new ArrayList<>();
        seen.add(Seen.state(x));
        x.write(0, 3, 120);
        seen.add(Seen.state(x));
        x.pass(3);
        seen.add(Seen.state(x));
        x.graft(1, 1, 2, 3);
        seen.add(Seen.state(x));
        x.fork(2, 0);
        seen.add(Seen.state(x));
        x.back(2, 1);
        seen.add(Seen.state(x));
        Samples.run(x, "w3/1=1;w3/1=2;y9;b3*2");
        for (int left = 5; left >= 0; left--) {
            Check.same("undo", x.undo(), left);
            Check.same("what there was", Seen.state(x), seen.get(left));
        }
    }

    private static void undoThenGoOn() {
        AbbeyLedgers x = new AbbeyLedgers();
        x.write(0, 3, 5);
        x.write(0, 4, 6);
        x.undo();
        Check.same("another version 2", x.write(1, 8, 9), 2);
        Check.same("its amounts", Check.lineOf(x, 2), "8=9");
        Check.same("its parent", x.versionOf(2, 0), 0);
        Check.same("its makers", Seen.makers(x, 2),
            "2 0 2 0 0 2 0 0 0 0 0 2 0 0 0 0 0 0 0 0 0 0 0 2 0 0 0 0 0 0 0");
        Check.same("undo", x.undo(), 1);
        Check.same("undo", x.undo(), 0);
        Check.same("versions", x.account(0), 1);
    }

    private static void saveAndRestore() {
        AbbeyLedgers x = new AbbeyLedgers();
        x.write(0, 3, 5);
        x.pass(4);
        x.fork(1, 0);
        Check.same("save", x.save(), 2);
        Check.same("save is nothing to undo", x.account(7), 3);
        x.write(0, 3, 6);
        x.pass(5);
        x.graft(2, 2, 0, 15);
        Check.same("restore", x.restore(), 2);
        Check.same("state", Seen.state(x), "1 1 0 0|2 4 36 2 1 1 0 0 0|-1 0 0|0 0 5");
        x.write(3, 9, 9);
        Check.same("restore again", x.restore(), 2);
        Check.same("state", Seen.state(x), "1 1 0 0|2 4 36 2 1 1 0 0 0|-1 0 0|0 0 5");
    }

    private static void restoreWhatWasUndone() {
        AbbeyLedgers x = new AbbeyLedgers();
        x.write(0, 3, 5);
        x.save();
        x.write(0, 3, 6);
        Check.same("save in place", x.save(), 3);
        x.undo();
        x.undo();
        Check.same("undone", x.account(0), 1);
        Check.same("restore", x.restore(), 3);
        Check.same("line", Check.lineOf(x, 2), "3=6");
        Check.same("line", Check.lineOf(x, 1), "3=5");
        Check.same("ledger", x.ledger(0), 2);
    }

    private static void restoreAfterOtherVersions() {
        AbbeyLedgers x = new AbbeyLedgers();
        x.write(0, 3, 5);
        x.pass(1);
        x.write(0, 15, 6);
        x.save();
        String saved = Seen.version(x, 2);
        x.undo();
        x.undo();
        x.undo();
        x.pass(9);
        x.write(2, 7, 1);
        x.write(3, 8, 2);
        x.write(2, 9, 3);
        Check.same("restore", x.restore(), 3);
        Check.same("the version 2", Seen.version(x, 2), saved);
        Check.same("years", x.versionOf(1, 1) + " " + x.versionOf(2, 1), "0 1");
        Check.same("sum by pages", x.sum(2, 0, 15), 11);
        x.write(0, 0, 1);
        x.write(0, 0, 2);
        Check.same("restore", x.restore(), 3);
        Check.same("ledgers", Seen.ledgers(x), "2 0 0 0");
    }

    private static void restoreCounts() {
        AbbeyLedgers x = new AbbeyLedgers();
        x.write(0, 3, 5);
        x.save();
        x.write(0, 3, 6);
        x.graft(1, 1, 0, 15);
        x.restore();
        Check.same("writings", x.account(5), 1);
        Check.same("graftings", x.account(6), 0);
    }
}
