import java.util.ArrayList;
import java.util.List;
import java.util.function.Supplier;

/** What the terms say of changes and of exceptions, and the promises 36 to 38: undo, save and restore. */
final class EdgesOfPast {
    private EdgesOfPast() {
    }

    private static AbbeyLedgers years(int many) {
        AbbeyLedgers x = new AbbeyLedgers();
        for (int year = 1; year <= many; year++) {
            x.pass(1);
        }
        return x;
    }

    private static void undone(String what, AbbeyLedgers x, Runnable call) {
        String before = Seen.state(x);
        int changes = x.account(7);
        call.run();
        Check.same("changes after " + what, x.account(7), changes + 1);
        Check.same("undo of " + what, x.undo(), changes);
        Check.same("state without " + what, Seen.state(x), before);
    }

    // Changes

    @Edge(promise = {2, 3, 4, 5, 6, 27, 36},
        says = "What can be undone are the successful calls of write, graft, fork, back, pass and commands.")
    static void undoOfEachChange() {
        AbbeyLedgers x = Samples.tree();
        x.undo();
        undone("write", x, () -> x.write(3, 15, 999));
        undone("graft", x, () -> x.graft(3, 3, 0, 15));
        undone("fork", x, () -> x.fork(3, 1));
        undone("back", x, () -> x.back(1, 3));
        undone("pass", x, () -> x.pass(97));
        undone("commands", x, () -> Samples.run(x, "w3/15=999;g2/3:0-15;f0<1;b1*3;y97"));
    }

    @Edge(promise = {7, 23, 26, 30, 31, 35, 36, 37}, says = "What can be undone are the successful calls of write, "
        + "graft, fork, back, pass and commands.")
    static void nothingElseIsUndone() {
        AbbeyLedgers x = Samples.tree();
        String before = Seen.state(x);
        Samples.attempt(() -> x.write(0, 16, 1));
        Samples.attempt(() -> x.graft(0, 9, 0, 1));
        Samples.attempt(() -> x.fork(1, 1));
        Samples.attempt(() -> x.back(0, 0));
        Samples.attempt(() -> x.pass(0));
        Samples.attempt(() -> Samples.run(x, "y1;y0"));
        Samples.attempt(() -> Samples.run(x, "y1;"));
        x.line(2);
        x.lineage(2);
        x.save();
        Check.same("state", Seen.state(x), before);
        Check.same("the latest change is what is undone", x.undo(), 6);
        Check.same("versions", x.account(0), 4);
    }

    @Edge(promise = 36, says = "What there was before each of the latest 8 is kept")
    static void eightOfNineAreUndone() {
        AbbeyLedgers x = years(9);
        for (int left = 7; left >= 0; left--) {
            Check.same("undo", x.undo(), left);
            Check.same("year", x.account(1), left + 1);
        }
        Check.noState("a ninth undo", () -> {
            AbbeyLedgers y = years(9);
            while (y.account(7) > 0) {
                y.undo();
            }
            return y;
        }, y -> y.undo());
    }

    @Edge(promise = 36, says = "What there was before each of the latest 8 is kept")
    static void theLatestEightAfterManyMore() {
        AbbeyLedgers x = Samples.full();
        for (int left = 7; left >= 0; left--) {
            Check.same("undo", x.undo(), left);
            Check.same("versions", x.account(0), left + 32);
            Check.same("ledger", x.ledger(0), left + 31);
        }
        Check.same("the amount there is then", x.amount(31, 0), 31);
        Check.same("a version comes in their place", x.write(0, 0, 999), 32);
    }

    @Edge(promise = {36, 38}, says = "restore forgets it")
    static void nothingIsUndoneAfterRestore() {
        Supplier<AbbeyLedgers> restored = () -> {
            AbbeyLedgers x = Samples.marked();
            x.write(0, 0, 1);
            x.restore();
            return x;
        };
        Check.same("changes", restored.get().account(7), 0);
        Check.noState("undo", restored, x -> x.undo());
        AbbeyLedgers x = restored.get();
        x.write(0, 0, 2);
        Check.same("what comes later is undone", x.undo(), 0);
        Check.same("versions", x.account(0), 5);
    }

    @Edge(promise = {26, 28, 29, 32, 36},
        says = "The text buffer, the fault position, the reason and the line do not belong to it, and stay.")
    static void whatStaysThroughUndo() {
        AbbeyLedgers x = Samples.marked();
        for (int call = 0; call < 7; call++) {
            x.undo();
        }
        staysMarked(x);
    }

    @Edge(promise = {26, 28, 29, 32, 37, 38},
        says = "The text buffer, the fault position, the reason and the line do not belong to it, and stay.")
    static void whatStaysThroughRestore() {
        AbbeyLedgers x = Samples.tree();
        x.save();
        Samples.attempt(() -> Samples.run(x, "y3;b0*9"));
        Samples.attempt(() -> Samples.run(x, "y1;"));
        x.line(2);
        Samples.fill(x, "y4;f3<1");
        x.write(0, 0, 1);
        x.restore();
        staysMarked(x);
        AbbeyLedgers y = Samples.marked();
        y.save();
        y.restore();
        staysMarked(y);
    }

    private static void staysMarked(AbbeyLedgers x) {
        Check.same("the buffer", x.account(8), 7);
        Check.same("the fault position", x.faultPosition(), 3);
        Check.same("the reason", Seen.reason(x), "7 2 1");
        Check.same("the line", Seen.line(x), "3=120,15=7");
        Check.same("the text", x.append(';') + x.append('z'), 17);
        Samples.attempt(() -> x.commands());
        Check.same("its fault", x.faultPosition(), 8);
    }

    // Exceptions

    private static List<Runnable> callsThatThrow(AbbeyLedgers x) {
        List<Runnable> calls = new ArrayList<>(List.of(() -> x.ledger(4), () -> x.amount(5, 0), () -> x.amount(0, 16),
            () -> x.sum(5, 0, 0), () -> x.sum(0, 1, 0), () -> x.sumAgain(5, 0, 0), () -> x.sumAgain(0, 1, 0),
            () -> x.most(5, 0, 0), () -> x.most(0, 1, 0), () -> x.reached(5, 0), () -> x.reached(0, 1)));
        calls.addAll(List.of(() -> x.versionOf(5, 0), () -> x.versionOf(0, 7), () -> x.maker(5, 0),
            () -> x.maker(0, 31), () -> x.had(4, 0), () -> x.had(0, 100), () -> x.since(5, 0), () -> x.since(0, 16),
            () -> x.common(5, 0), () -> x.apart(0, 5), () -> x.shared(5, 0), () -> x.isOf(0, 5)));
        calls.addAll(List.of(() -> x.users(5, 0), () -> x.users(0, 31), () -> x.wouldMake(1, 0), () -> x.alike(5),
            () -> x.richest(5), () -> x.reason(3), () -> x.line(5), () -> x.lineage(5), () -> x.character(10),
            () -> x.mean(5), () -> x.account(9)));
        return calls;
    }

    @Edge(promise = {7, 8, 9, 10, 11, 12, 13, 14, 15, 16, 17, 18, 19, 20, 21, 22, 23, 24, 29, 30, 31, 32, 33, 35},
        says = "A call that throws an exception leaves the state unchanged, unless stated otherwise.")
    static void allCallsThatThrowLeaveAllAsItIs() {
        AbbeyLedgers x = Samples.marked();
        AbbeyLedgers untried = Samples.marked();
        for (Runnable call : callsThatThrow(x)) {
            boolean throwsIt = false;
            try {
                call.run();
            } catch (RuntimeException e) {
                throwsIt = true;
            }
            Check.that("it throws", throwsIt);
        }
        Check.same("reason", Seen.reason(x), Seen.reason(untried));
        Check.same("fault", x.faultPosition(), untried.faultPosition());
        Check.same("line", Seen.line(x), Seen.line(untried));
        Check.same("state", Seen.state(x), Seen.state(untried));
        Check.same("what is hidden", Seen.hidden(x), Seen.hidden(untried));
    }

    @Edge(promise = {2, 3, 4, 5, 6, 36}, says = "A call that throws an exception leaves the state unchanged, unless "
        + "stated otherwise.")
    static void refusedCallsForgetNoChange() {
        AbbeyLedgers x = years(12);
        for (int call = 0; call < 9; call++) {
            Samples.attempt(() -> x.pass(0));
            Samples.attempt(() -> x.write(0, 0, 0));
            Samples.attempt(() -> x.fork(0, 1));
        }
        for (int left = 7; left >= 0; left--) {
            Check.same("undo", x.undo(), left);
            Check.same("year", x.account(1), left + 4);
        }
    }

    @Edge(promise = {8, 9, 10, 11, 12, 13, 14, 15, 16, 21, 29}, says = "If several conditions of a method are "
        + "fulfilled, the one that is listed first determines the exception.")
    static void theFirstOfTwoExceptions() {
        Check.noIndex("amount", Samples::marked, x -> x.amount(5, 16));
        Check.noIndex("sum", Samples::marked, x -> x.sum(5, 16, 0));
        Check.noIndex("sum", Samples::marked, x -> x.sum(-1, 1, 0));
        Check.noIndex("sumAgain", Samples::marked, x -> x.sumAgain(5, 16, 0));
        Check.noIndex("sumAgain", Samples::marked, x -> x.sumAgain(-1, 1, 0));
        Check.noIndex("most", Samples::marked, x -> x.most(5, 16, 0));
        Check.noIndex("most", Samples::marked, x -> x.most(-1, 1, 0));
        Check.noIndex("reached", Samples::marked, x -> x.reached(5, 20000));
        Check.noIndex("versionOf", Samples::marked, x -> x.versionOf(5, 7));
        Check.noIndex("maker", Samples::marked, x -> x.maker(5, 31));
        Check.noIndex("had", Samples::marked, x -> x.had(4, 100));
        Check.noIndex("since", Samples::marked, x -> x.since(5, 16));
        Check.noIndex("users", Samples::marked, x -> x.users(5, 31));
        Check.noArgument("reason", AbbeyLedgers::new, x -> x.reason(3));
    }

    // Promise 36

    @Edge(promise = 36, says = "Throws `IllegalStateException` if there is none")
    static void nothingToUndo() {
        Check.noState("undo at first", AbbeyLedgers::new, x -> x.undo());
        Check.noState("undo after a refusal", () -> {
            AbbeyLedgers x = new AbbeyLedgers();
            Samples.attempt(() -> x.pass(100));
            return x;
        }, x -> x.undo());
        Check.noState("undo of more than there was", () -> {
            AbbeyLedgers x = years(1);
            x.undo();
            return x;
        }, x -> x.undo());
    }

    @Edge(promise = 36, says = "Undoes the latest call that can be undone.")
    static void undoGoesFromTheLatestToTheFirst() {
        AbbeyLedgers x = new AbbeyLedgers();
        List<String> before = new ArrayList<>();
        before.add(Seen.state(x));
        x.write(0, 3, 120);
        before.add(Seen.state(x));
        Samples.run(x, "w1/3=7;w1/4=8;y9");
        before.add(Seen.state(x));
        x.graft(2, 3, 3, 3);
        for (int left = 2; left >= 0; left--) {
            Check.same("undo", x.undo(), left);
            Check.same("state", Seen.state(x), before.get(left));
        }
        Check.same("the numbers begin again", x.write(3, 1, 1), 1);
        Check.same("the pages too", Seen.makers(x, 1),
            "1 1 0 1 0 0 0 1 0 0 0 0 0 0 0 0 1 0 0 0 0 0 0 0 0 0 0 0 0 0 0");
    }

    @Edge(promise = 36, says = "Returns the number of calls that can still be undone.")
    static void undoReturnsFromSevenDownToNone() {
        for (int changes = 1; changes <= 10; changes++) {
            AbbeyLedgers x = years(changes);
            Check.same("undo of " + changes, x.undo(), Math.min(changes, 8) - 1);
        }
    }

    // Promises 37 and 38

    @Edge(promise = 37, says = "Saves all that can be undone, in place of an earlier snapshot.")
    static void theLatestSnapshotIsRestored() {
        AbbeyLedgers x = Samples.tree();
        Check.same("save", x.save(), 5);
        x.graft(3, 3, 0, 15);
        x.pass(7);
        String state = Seen.state(x).replaceFirst("(\\|\\d+ \\d+ \\d+ \\d+ \\d+ \\d+ \\d+) \\d+", "$1 0");
        String pages = Seen.version(x, 3) + Seen.version(x, 5);
        Check.same("save in place", x.save(), 6);
        for (int call = 0; call < 8; call++) {
            x.undo();
        }
        x.pass(30);
        for (int version = 2; version < 8; version++) {
            Check.same("others in their place", x.write(2, 2 * version, version), version);
        }
        Check.same("restore", x.restore(), 6);
        Check.same("state", Seen.state(x), state);
        Check.same("pages", Seen.version(x, 3) + Seen.version(x, 5), pages);
    }

    @Edge(promise = 37, says = "Returns how many versions there are.")
    static void saveReturnsFromOneVersionToAll() {
        Check.same("one", new AbbeyLedgers().save(), 1);
        Check.same("all", Samples.full().save(), 40);
    }

    @Edge(promise = 38, says = "Throws `IllegalStateException` if there is no snapshot")
    static void restoreNeedsASnapshot() {
        Check.noState("restore at first", AbbeyLedgers::new, x -> x.restore());
        Check.noState("restore after changes", Samples::tree, x -> x.restore());
    }

    @Edge(promise = 38, says = "Restores what was saved; the snapshot is kept.")
    static void aSnapshotIsRestoredMoreThanOnce() {
        AbbeyLedgers x = new AbbeyLedgers();
        x.write(0, 3, 5);
        x.pass(1);
        x.write(1, 15, 6);
        x.save();
        String saved = Seen.version(x, 2);
        String state = "1 2 0 0|3 1 41 3 2 2 0 0 0|-1 0 0|0 0 5|0 1 6";
        for (int times = 0; times < 3; times++) {
            x.pass(10);
            x.write(2, 7, 8);
            x.graft(1, 3, 0, 15);
            x.back(0, 1);
            x.undo();
            Check.same("restore", x.restore(), 3);
            Check.same("state", Seen.state(x), state);
            Check.same("a version", Seen.version(x, 2), saved);
        }
    }

    @Edge(promise = 38, says = "Returns how many versions there are.")
    static void restoreReturnsFromOneVersionToAll() {
        AbbeyLedgers x = new AbbeyLedgers();
        x.save();
        x.write(0, 0, 1);
        Check.same("one", x.restore(), 1);
        AbbeyLedgers y = Samples.full();
        y.save();
        y.undo();
        y.undo();
        Check.same("all", y.restore(), 40);
        Check.same("the last one", y.amount(39, 0), 39);
    }
}
