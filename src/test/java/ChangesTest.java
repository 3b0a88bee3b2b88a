/** Promises 1 to 6: a new object, and the calls that change it. */
final class ChangesTest {
    private static final int[] FAR = {Integer.MIN_VALUE, Integer.MIN_VALUE + 1, -1, Integer.MAX_VALUE};

    public static void main(String[] args) {
        newObject();
        writeMakesVersion();
        writeMakesPages();
        writeRefused();
        writeRefusedInOrder();
        graftTakesPages();
        graftAcrossHalves();
        graftWhole();
        graftRefused();
        graftRefusedInOrder();
        forkTakesOver();
        forkRefused();
        backGoesBack();
        backRefused();
        passLetsYearsGo();
        passRefused();
        Check.end("ChangesTest");
    }

    private static void newObject() {
        AbbeyLedgers x = new AbbeyLedgers();
        Check.same("ledgers", Check.ledgers(x), "0 0 0 0");
        Check.same("amounts", Check.amounts(x, 0), "0 0 0 0 0 0 0 0 0 0 0 0 0 0 0 0");
        Check.same("makers", Check.makers(x, 0),
            "0 0 0 0 0 0 0 0 0 0 0 0 0 0 0 0 0 0 0 0 0 0 0 0 0 0 0 0 0 0 0");
        Check.same("versions", x.account(0), 1);
        Check.same("year", x.account(1), 0);
        Check.same("pages", x.account(2), 31);
        Check.same("writings", x.account(5), 0);
        Check.same("graftings", x.account(6), 0);
        Check.same("undoable", x.account(7), 0);
        Check.same("characters", x.account(8), 0);
        Check.same("fault", x.faultPosition(), -1);
        AbbeyLedgers other = new AbbeyLedgers();
        x.write(0, 0, 1);
        Check.same("another object", other.account(0), 1);
    }

    private static void writeMakesVersion() {
        AbbeyLedgers x = new AbbeyLedgers();
        Check.same("write", x.write(0, 0, 999), 1);
        Check.same("write", x.write(3, 15, 1), 2);
        Check.same("write", x.write(0, 0, 0), 3);
        Check.same("write", x.write(0, 9, 7), 4);
        Check.same("ledgers", Check.ledgers(x), "4 0 0 2");
        Check.same("amounts", Check.amounts(x, 1), "999 0 0 0 0 0 0 0 0 0 0 0 0 0 0 0");
        Check.same("amounts", Check.amounts(x, 2), "0 0 0 0 0 0 0 0 0 0 0 0 0 0 0 1");
        Check.same("amounts", Check.amounts(x, 3), "0 0 0 0 0 0 0 0 0 0 0 0 0 0 0 0");
        Check.same("amounts", Check.amounts(x, 4), "0 0 0 0 0 0 0 0 0 7 0 0 0 0 0 0");
        Check.same("parents", x.versionOf(1, 0) + " " + x.versionOf(2, 0) + " " + x.versionOf(3, 0) + " "
            + x.versionOf(4, 0), "0 0 1 3");
        Check.same("writings", x.account(5), 4);
    }

    private static void writeMakesPages() {
        AbbeyLedgers x = new AbbeyLedgers();
        x.write(0, 3, 5);
        Check.same("makers", Check.makers(x, 1),
            "1 1 0 1 0 0 0 0 1 0 0 0 0 0 0 0 0 0 1 0 0 0 0 0 0 0 0 0 0 0 0");
        x.write(0, 15, 5);
        Check.same("makers", Check.makers(x, 2),
            "2 1 2 1 0 0 2 0 1 0 0 0 0 0 2 0 0 0 1 0 0 0 0 0 0 0 0 0 0 0 2");
        Check.same("old makers", Check.makers(x, 1),
            "1 1 0 1 0 0 0 0 1 0 0 0 0 0 0 0 0 0 1 0 0 0 0 0 0 0 0 0 0 0 0");
        x.write(0, 0, 5);
        Check.same("makers", Check.makers(x, 3),
            "3 3 2 3 0 0 2 3 1 0 0 0 0 0 2 3 0 0 1 0 0 0 0 0 0 0 0 0 0 0 2");
    }

    private static void writeRefused() {
        AbbeyLedgers x = new AbbeyLedgers();
        x.write(1, 2, 3);
        for (int far : FAR) {
            Check.refused("write", x, 1, 0, () -> x.write(far, 0, 1));
            Check.refused("write", x, 1, 0, () -> x.write(0, far, 1));
            Check.refused("write", x, 1, 0, () -> x.write(0, 0, far));
        }
        Check.refused("write(4, 0, 1)", x, 1, 0, () -> x.write(4, 0, 1));
        Check.refused("write(0, 16, 1)", x, 1, 0, () -> x.write(0, 16, 1));
        Check.refused("write(0, 0, 1000)", x, 1, 0, () -> x.write(0, 0, 1000));
        Check.refused("write(1, 2, 3)", x, 3, 1, () -> x.write(1, 2, 3));
        Check.refused("write(0, 2, 0)", x, 3, 0, () -> x.write(0, 2, 0));
        Check.same("write after all", x.write(0, 2, 3), 2);
        Check.same("the last reason stays", x.reason(0), 3);
    }

    private static void writeRefusedInOrder() {
        AbbeyLedgers x = Check.full();
        Check.same("versions", x.account(0), 40);
        Check.refused("write", x, 2, 0, () -> x.write(0, 0, 1));
        Check.refused("write", x, 2, 0, () -> x.write(3, 0, 1));
        Check.refused("write", x, 3, 39, () -> x.write(0, 0, 39));
        Check.refused("write", x, 1, 0, () -> x.write(0, 0, 1000));
        x.undo();
        Check.same("write once more", x.write(0, 0, 77), 39);
    }

    private static void graftTakesPages() {
        AbbeyLedgers x = new AbbeyLedgers();
        x.write(0, 3, 120);
        x.write(0, 15, 7);
        x.write(1, 9, 5);
        x.write(1, 3, 6);
        Check.same("graft", x.graft(1, 2, 0, 7), 5);
        Check.same("amounts", Check.amounts(x, 5), "0 0 0 120 0 0 0 0 0 5 0 0 0 0 0 0");
        Check.same("makers", Check.makers(x, 5),
            "5 1 3 1 0 3 0 0 1 0 0 3 0 0 0 0 0 0 1 0 0 0 0 0 3 0 0 0 0 0 0");
        Check.same("parent", x.versionOf(5, 0), 4);
        Check.same("ledgers", Check.ledgers(x), "2 5 0 0");
        Check.same("graftings", x.account(6), 1);
        Check.same("writings", x.account(5), 4);
        Check.same("sum by pages", x.sum(5, 0, 15), 125);
        Check.same("sum by pages", x.sum(5, 0, 7), 120);
        Check.same("graft of one line", x.graft(2, 2, 15, 15), 6);
        Check.same("makers", Check.makers(x, 6),
            "6 0 6 0 0 0 6 0 0 0 0 0 0 0 6 0 0 0 0 0 0 0 0 0 0 0 0 0 0 0 2");
    }

    private static void graftAcrossHalves() {
        AbbeyLedgers x = new AbbeyLedgers();
        for (int line = 0; line < 16; line++) {
            x.write(0, line, line + 1);
        }
        Check.same("graft", x.graft(1, 16, 1, 14), 17);
        Check.same("amounts", Check.amounts(x, 17), "0 2 3 4 5 6 7 8 9 10 11 12 13 14 15 0");
        Check.same("makers", Check.makers(x, 17),
            "17 17 17 17 8 12 17 17 4 6 8 10 12 14 17 0 2 3 4 5 6 7 8 9 10 11 12 13 14 15 0");
        Check.same("pages", x.versionOf(17, 4), 7);
        Check.same("sum by pages", x.sum(17, 0, 15), 119);
        Check.same("graft from a later version that is not of the line", x.graft(0, 17, 14, 15), 18);
        Check.same("amounts", Check.amounts(x, 18), "1 2 3 4 5 6 7 8 9 10 11 12 13 14 15 0");
        Check.same("a page made by a graft is taken", x.maker(18, 14), 17);
        Check.same("a page within it is an older one", x.maker(18, 29), 15);
    }

    private static void graftWhole() {
        AbbeyLedgers x = new AbbeyLedgers();
        x.write(0, 3, 120);
        Check.same("graft", x.graft(1, 1, 0, 15), 2);
        Check.same("makers", Check.makers(x, 2), Check.makers(x, 1));
        Check.same("it made none", x.versionOf(2, 4), 0);
        Check.same("parent", x.versionOf(2, 0), 0);
        Check.same("ledgers", Check.ledgers(x), "1 2 0 0");
        Check.refused("graft", x, 3, 2, () -> x.graft(1, 1, 0, 15));
    }

    private static void graftRefused() {
        AbbeyLedgers x = new AbbeyLedgers();
        x.write(1, 2, 3);
        x.write(1, 2, 4);
        for (int far : FAR) {
            Check.refused("graft", x, 1, 0, () -> x.graft(far, 1, 2, 2));
            Check.refused("graft", x, 1, 0, () -> x.graft(0, 1, far, 2));
            Check.refused("graft", x, 1, 0, () -> x.graft(0, 1, 2, far));
            Check.refused("graft", x, 4, 3, () -> x.graft(0, far, 2, 2));
        }
        Check.refused("graft(4, 1, 2, 2)", x, 1, 0, () -> x.graft(4, 1, 2, 2));
        Check.refused("graft(0, 1, 16, 16)", x, 1, 0, () -> x.graft(0, 1, 16, 16));
        Check.refused("graft(0, 1, 2, 16)", x, 1, 0, () -> x.graft(0, 1, 2, 16));
        Check.refused("graft(0, 3, 2, 2)", x, 4, 3, () -> x.graft(0, 3, 2, 2));
        Check.refused("graft(0, 40, 2, 2)", x, 4, 3, () -> x.graft(0, 40, 2, 2));
        Check.refused("graft(0, 1, 15, 0)", x, 5, 15, () -> x.graft(0, 1, 15, 0));
        Check.refused("graft(0, 1, 3, 2)", x, 5, 1, () -> x.graft(0, 1, 3, 2));
        Check.refused("graft of its own", x, 3, 2, () -> x.graft(1, 2, 0, 15));
        Check.refused("graft of the same amounts", x, 3, 2, () -> x.graft(1, 1, 3, 15));
        Check.refused("graft of the same amounts", x, 3, 2, () -> x.graft(1, 1, 0, 1));
        x.write(0, 2, 4);
        Check.refused("graft of the same amounts by other pages", x, 3, 3, () -> x.graft(0, 2, 0, 15));
        Check.same("graft after all", x.graft(1, 1, 2, 3), 4);
    }

    private static void graftRefusedInOrder() {
        AbbeyLedgers x = Check.full();
        Check.refused("1 ahead of 4", x, 1, 0, () -> x.graft(0, 40, 16, 0));
        Check.refused("4 ahead of 5", x, 4, 40, () -> x.graft(0, 40, 5, 0));
        Check.refused("5 ahead of 3", x, 5, 4, () -> x.graft(0, 39, 5, 1));
        Check.refused("3 ahead of 2", x, 3, 39, () -> x.graft(0, 38, 1, 5));
        Check.refused("2", x, 2, 0, () -> x.graft(0, 38, 0, 5));
    }

    private static void forkTakesOver() {
        AbbeyLedgers x = new AbbeyLedgers();
        x.write(3, 0, 1);
        x.write(3, 0, 2);
        Check.same("fork", x.fork(0, 3), 2);
        Check.same("ledgers", Check.ledgers(x), "2 0 0 2");
        Check.same("fork to an older ledger", x.fork(3, 1), 0);
        Check.same("ledgers", Check.ledgers(x), "2 0 0 0");
        Check.same("versions", x.account(0), 3);
        x.write(0, 5, 5);
        Check.same("ledgers are apart again", Check.ledgers(x), "3 0 0 0");
    }

    private static void forkRefused() {
        AbbeyLedgers x = new AbbeyLedgers();
        x.write(2, 0, 1);
        x.fork(3, 2);
        for (int far : FAR) {
            Check.refused("fork", x, 1, 0, () -> x.fork(far, 2));
            Check.refused("fork", x, 1, 0, () -> x.fork(0, far));
            Check.refused("1 ahead of 6", x, 1, 0, () -> x.fork(far, far));
        }
        Check.refused("fork(4, 2)", x, 1, 0, () -> x.fork(4, 2));
        Check.refused("fork(0, 4)", x, 1, 0, () -> x.fork(0, 4));
        Check.refused("1 ahead of 6", x, 1, 0, () -> x.fork(4, 4));
        Check.refused("6 ahead of 3", x, 6, 3, () -> x.fork(3, 3));
        Check.refused("fork(0, 0)", x, 6, 0, () -> x.fork(0, 0));
        Check.refused("fork(2, 3)", x, 3, 1, () -> x.fork(2, 3));
        Check.refused("fork(0, 1)", x, 3, 0, () -> x.fork(0, 1));
    }

    private static void backGoesBack() {
        AbbeyLedgers x = new AbbeyLedgers();
        x.write(0, 0, 1);
        x.write(1, 0, 2);
        x.write(0, 0, 3);
        x.write(0, 0, 4);
        Check.same("back", x.back(0, 1), 3);
        Check.same("back", x.back(0, 2), 0);
        Check.same("ledgers", Check.ledgers(x), "0 2 0 0");
        Check.same("versions", x.account(0), 5);
        Check.same("a new child", x.write(0, 0, 5), 5);
        Check.same("its parent", x.versionOf(5, 0), 0);
        AbbeyLedgers full = Check.full();
        Check.same("back by all", full.back(0, 39), 0);
    }

    private static void backRefused() {
        AbbeyLedgers x = new AbbeyLedgers();
        x.write(1, 0, 1);
        x.write(1, 0, 2);
        for (int far : FAR) {
            Check.refused("back", x, 1, 0, () -> x.back(far, 1));
            Check.refused("back", x, 1, 0, () -> x.back(1, far));
        }
        Check.refused("back(4, 1)", x, 1, 0, () -> x.back(4, 1));
        Check.refused("back(1, 0)", x, 1, 0, () -> x.back(1, 0));
        Check.refused("back(1, 40)", x, 1, 0, () -> x.back(1, 40));
        Check.refused("back(1, 39)", x, 7, 2, () -> x.back(1, 39));
        Check.refused("back(1, 3)", x, 7, 2, () -> x.back(1, 3));
        Check.refused("back(0, 1)", x, 7, 0, () -> x.back(0, 1));
        Check.same("back(1, 2)", x.back(1, 2), 0);
    }

    private static void passLetsYearsGo() {
        AbbeyLedgers x = new AbbeyLedgers();
        Check.same("pass", x.pass(1), 1);
        x.write(0, 0, 1);
        Check.same("pass", x.pass(98), 99);
        x.write(0, 0, 2);
        Check.same("year", x.account(1), 99);
        Check.same("year of 1", x.versionOf(1, 1), 1);
        Check.same("year of 2", x.versionOf(2, 1), 99);
        Check.same("pass at once", new AbbeyLedgers().pass(99), 99);
    }

    private static void passRefused() {
        AbbeyLedgers x = new AbbeyLedgers();
        x.pass(90);
        for (int far : FAR) {
            Check.refused("pass", x, 1, 0, () -> x.pass(far));
        }
        Check.refused("pass(0)", x, 1, 0, () -> x.pass(0));
        Check.refused("pass(100)", x, 1, 0, () -> x.pass(100));
        Check.refused("pass(99)", x, 8, 90, () -> x.pass(99));
        Check.refused("pass(10)", x, 8, 1, () -> x.pass(10));
        Check.same("pass(9)", x.pass(9), 99);
        Check.refused("pass(1)", x, 8, 1, () -> x.pass(1));
    }
}
