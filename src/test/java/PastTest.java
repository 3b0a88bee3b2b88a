import java.util.ArrayList;
import java.util.List;

/** Promises 36 to 38: undo, save and restore. */
final class PastTest {
    public static void main(String[] args) {
        undoEachKind();
        undoAtMostEight();
        undoLeavesTheRest();
        undoThenGoOn();
        saveAndRestore();
        saveInPlace();
        restoreForgetsThePast();
        restoreAfterOtherVersions();
        restoreUndoesCounts();
        Check.end("PastTest");
    }

    private static void undoEachKind() {
        AbbeyLedgers x = new AbbeyLedgers();
        Check.noState("undo", x, () -> x.undo());
        List<String> seen = new ArrayList<>();
        seen.add(Check.seen(x));
        x.write(0, 3, 120);
        seen.add(Check.seen(x));
        x.pass(3);
        seen.add(Check.seen(x));
        x.graft(1, 1, 2, 3);
        seen.add(Check.seen(x));
        x.fork(2, 0);
        seen.add(Check.seen(x));
        x.back(2, 1);
        seen.add(Check.seen(x));
        Check.run(x, "w3/1=1;w3/1=2;y9;b3*2");
        for (int left = 5; left >= 0; left--) {
            Check.same("undo", x.undo(), left);
            Check.same("what there was", Check.seen(x), seen.get(left));
        }
        Check.noState("undo", x, () -> x.undo());
    }

    private static void undoAtMostEight() {
        AbbeyLedgers x = new AbbeyLedgers();
        for (int year = 1; year <= 11; year++) {
            x.pass(1);
            Check.same("undoable", x.account(7), Math.min(year, 8));
        }
        for (int left = 7; left >= 0; left--) {
            Check.same("undo", x.undo(), left);
            Check.same("year", x.account(1), left + 3);
        }
        Check.noState("undo", x, () -> x.undo());
        AbbeyLedgers full = Check.full();
        for (int left = 7; left >= 0; left--) {
            Check.same("undo", full.undo(), left);
            Check.same("versions", full.account(0), left + 32);
            Check.same("ledger", full.ledger(0), left + 31);
            Check.same("writings", full.account(5), left + 31);
        }
        Check.noState("undo", full, () -> full.undo());
    }

    private static void undoLeavesTheRest() {
        AbbeyLedgers x = new AbbeyLedgers();
        x.write(0, 3, 5);
        x.line(1);
        Check.textRefused(x, "y1;y0", 1, 0, 1);
        Check.textFails(x, "y1;", 3);
        Check.fill(x, "y1");
        x.undo();
        Check.same("the line", Check.script(x, 3), "3=5");
        Check.same("the reason", x.reason(0) + " " + x.reason(1) + " " + x.reason(2), "1 0 1");
        Check.same("the fault", x.faultPosition(), 3);
        Check.same("the buffer", x.account(8), 2);
        Check.same("the buffer", x.commands(), 1);
        Check.noIndex("the version", x, () -> x.amount(1, 3));
    }

    private static void undoThenGoOn() {
        AbbeyLedgers x = new AbbeyLedgers();
        x.write(0, 3, 5);
        x.write(0, 4, 6);
        x.undo();
        Check.same("another version 2", x.write(1, 8, 9), 2);
        Check.same("its amounts", Check.lineOf(x, 2), "8=9");
        Check.same("its parent", x.versionOf(2, 0), 0);
        Check.same("its makers", Check.makers(x, 2),
            "2 0 2 0 0 2 0 0 0 0 0 2 0 0 0 0 0 0 0 0 0 0 0 2 0 0 0 0 0 0 0");
        Check.same("undo", x.undo(), 1);
        Check.same("undo", x.undo(), 0);
        Check.same("refused calls are not undone", x.account(0), 1);
    }

    private static void saveAndRestore() {
        AbbeyLedgers x = new AbbeyLedgers();
        Check.noState("restore", x, () -> x.restore());
        x.write(0, 3, 5);
        x.pass(4);
        x.fork(1, 0);
        Check.same("save", x.save(), 2);
        String before = Check.seen(x);
        Check.same("save is nothing to undo", x.account(7), 3);
        x.write(0, 3, 6);
        x.pass(5);
        x.graft(2, 2, 0, 15);
        Check.same("restore", x.restore(), 2);
        Check.same("ledgers", Check.ledgers(x), "1 1 0 0");
        Check.same("year", x.account(1), 4);
        x.write(3, 9, 9);
        Check.same("restore again", x.restore(), 2);
        Check.that("the same but what can be undone",
            before.replaceFirst(" 1 0 3 0\\|", " 1 0 0 0|").equals(Check.seen(x)));
    }

    private static void saveInPlace() {
        AbbeyLedgers x = new AbbeyLedgers();
        x.write(0, 3, 5);
        x.save();
        x.write(0, 3, 6);
        Check.same("save in place", x.save(), 3);
        x.undo();
        x.undo();
        Check.same("undone", x.account(0), 1);
        Check.same("restore what was undone", x.restore(), 3);
        Check.same("line", Check.lineOf(x, 2), "3=6");
        Check.same("line", Check.lineOf(x, 1), "3=5");
        Check.same("ledger", x.ledger(0), 2);
    }

    private static void restoreForgetsThePast() {
        AbbeyLedgers x = new AbbeyLedgers();
        x.write(0, 3, 5);
        x.save();
        x.write(0, 3, 6);
        x.restore();
        Check.same("undoable", x.account(7), 0);
        Check.noState("undo", x, () -> x.undo());
        x.write(0, 3, 7);
        Check.same("undo", x.undo(), 0);
        Check.same("versions", x.account(0), 2);
        Check.noState("undo", x, () -> x.undo());
    }

    private static void restoreAfterOtherVersions() {
        AbbeyLedgers x = new AbbeyLedgers();
        x.write(0, 3, 5);
        x.pass(1);
        x.write(0, 15, 6);
        x.save();
        String amounts = Check.amounts(x, 2);
        String makers = Check.makers(x, 2);
        x.undo();
        x.undo();
        x.undo();
        x.pass(9);
        x.write(2, 7, 1);
        x.write(3, 8, 2);
        x.write(2, 9, 3);
        Check.same("restore", x.restore(), 3);
        Check.same("amounts", Check.amounts(x, 2), amounts);
        Check.same("makers", Check.makers(x, 2), makers);
        Check.same("parent", x.versionOf(2, 0), 1);
        Check.same("years", x.versionOf(1, 1) + " " + x.versionOf(2, 1), "0 1");
        Check.same("sum by pages", x.sum(2, 0, 15), 11);
        x.write(0, 0, 1);
        x.write(0, 0, 2);
        Check.same("restore", x.restore(), 3);
        Check.same("ledgers", Check.ledgers(x), "2 0 0 0");
    }

    private static void restoreUndoesCounts() {
        AbbeyLedgers x = new AbbeyLedgers();
        x.write(0, 3, 5);
        x.save();
        x.write(0, 3, 6);
        x.graft(1, 1, 0, 15);
        Check.refused("back", x, 7, 2, () -> x.back(0, 9));
        x.line(1);
        Check.fill(x, "zz");
        x.restore();
        Check.same("writings", x.account(5), 1);
        Check.same("graftings", x.account(6), 0);
        Check.same("the buffer stays", x.account(8), 2);
        Check.same("the reason stays", x.reason(0) + " " + x.reason(1), "7 2");
        Check.same("the line stays", Check.script(x, 3), "3=5");
    }
}
