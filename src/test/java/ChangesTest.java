/** Promises 2 to 6: the calls that change an object. */
final class ChangesTest {
    public static void main(String[] args) {
        writeMakesVersion();
        writeMakesPages();
        graftTakesPages();
        graftAcrossHalves();
        graftWhole();
        forkTakesOver();
        backGoesBack();
        passLetsYearsGo();
        Check.end("ChangesTest");
    }

    private static void writeMakesVersion() {
        AbbeyLedgers x = new AbbeyLedgers();
        Check.same("write", x.write(0, 0, 999), 1);
        Check.same("write", x.write(3, 15, 1), 2);
        Check.same("write", x.write(0, 0, 0), 3);
        Check.same("write", x.write(0, 9, 7), 4);
        Check.same("ledgers", Seen.ledgers(x), "4 0 0 2");
        Check.same("amounts", Seen.amounts(x, 1), "999 0 0 0 0 0 0 0 0 0 0 0 0 0 0 0");
        Check.same("amounts", Seen.amounts(x, 2), "0 0 0 0 0 0 0 0 0 0 0 0 0 0 0 1");
        Check.same("amounts", Seen.amounts(x, 3), "0 0 0 0 0 0 0 0 0 0 0 0 0 0 0 0");
        Check.same("amounts", Seen.amounts(x, 4), "0 0 0 0 0 0 0 0 0 7 0 0 0 0 0 0");
        Check.same("parents", x.versionOf(1, 0) + " " + x.versionOf(2, 0) + " " + x.versionOf(3, 0) + " "
            + x.versionOf(4, 0), "0 0 1 3");
        Check.same("writings", x.account(5), 4);
    }

    private static void writeMakesPages() {
        AbbeyLedgers x = new AbbeyLedgers();
        x.write(0, 3, 5);
        Check.same("makers", Seen.makers(x, 1),
            "1 1 0 1 0 0 0 0 1 0 0 0 0 0 0 0 0 0 1 0 0 0 0 0 0 0 0 0 0 0 0");
        x.write(0, 15, 5);
        Check.same("makers", Seen.makers(x, 2),
            "2 1 2 1 0 0 2 0 1 0 0 0 0 0 2 0 0 0 1 0 0 0 0 0 0 0 0 0 0 0 2");
        Check.same("old makers", Seen.makers(x, 1),
            "1 1 0 1 0 0 0 0 1 0 0 0 0 0 0 0 0 0 1 0 0 0 0 0 0 0 0 0 0 0 0");
        x.write(0, 0, 5);
        Check.same("makers", Seen.makers(x, 3),
            "3 3 2 3 0 0 2 3 1 0 0 0 0 0 2 3 0 0 1 0 0 0 0 0 0 0 0 0 0 0 2");
    }

    private static void graftTakesPages() {
        AbbeyLedgers x = new AbbeyLedgers();
        x.write(0, 3, 120);
        x.write(0, 15, 7);
        x.write(1, 9, 5);
        x.write(1, 3, 6);
        Check.same("graft", x.graft(1, 2, 0, 7), 5);
        Check.same("amounts", Seen.amounts(x, 5), "0 0 0 120 0 0 0 0 0 5 0 0 0 0 0 0");
        Check.same("makers", Seen.makers(x, 5),
            "5 1 3 1 0 3 0 0 1 0 0 3 0 0 0 0 0 0 1 0 0 0 0 0 3 0 0 0 0 0 0");
        Check.same("parent", x.versionOf(5, 0), 4);
        Check.same("ledgers", Seen.ledgers(x), "2 5 0 0");
        Check.same("graftings", x.account(6), 1);
        Check.same("writings", x.account(5), 4);
        Check.same("sum by pages", x.sum(5, 0, 15), 125);
        Check.same("sum by pages", x.sum(5, 0, 7), 120);
        Check.same("graft of one line", x.graft(2, 2, 15, 15), 6);
        Check.same("makers", Seen.makers(x, 6),
            "6 0 6 0 0 0 6 0 0 0 0 0 0 0 6 0 0 0 0 0 0 0 0 0 0 0 0 0 0 0 2");
    }

    private static void graftAcrossHalves() {
        AbbeyLedgers x = new AbbeyLedgers();
        for (int line = 0; line < 16; line++) {
            x.write(0, line, line + 1);
        }
        Check.same("graft", x.graft(1, 16, 1, 14), 17);
        Check.same("amounts", Seen.amounts(x, 17), "0 2 3 4 5 6 7 8 9 10 11 12 13 14 15 0");
        Check.same("makers", Seen.makers(x, 17),
            "17 17 17 17 8 12 17 17 4 6 8 10 12 14 17 0 2 3 4 5 6 7 8 9 10 11 12 13 14 15 0");
        Check.same("pages", x.versionOf(17, 4), 7);
        Check.same("sum by pages", x.sum(17, 0, 15), 119);
        Check.same("graft from a later version that is not of the line", x.graft(0, 17, 14, 15), 18);
        Check.same("amounts", Seen.amounts(x, 18), "1 2 3 4 5 6 7 8 9 10 11 12 13 14 15 0");
        Check.same("a page made by a graft is taken", x.maker(18, 14), 17);
        Check.same("a page within it is an older one", x.maker(18, 29), 15);
    }

    private static void graftWhole() {
        AbbeyLedgers x = new AbbeyLedgers();
        x.write(0, 3, 120);
        Check.same("graft", x.graft(1, 1, 0, 15), 2);
        Check.same("makers", Seen.makers(x, 2), Seen.makers(x, 1));
        Check.same("it made none", x.versionOf(2, 4), 0);
        Check.same("parent", x.versionOf(2, 0), 0);
        Check.same("ledgers", Seen.ledgers(x), "1 2 0 0");
    }

    private static void forkTakesOver() {
        AbbeyLedgers x = new AbbeyLedgers();
        x.write(3, 0, 1);
        x.write(3, 0, 2);
        Check.same("fork", x.fork(0, 3), 2);
        Check.same("ledgers", Seen.ledgers(x), "2 0 0 2");
        Check.same("fork to an older ledger", x.fork(3, 1), 0);
        Check.same("ledgers", Seen.ledgers(x), "2 0 0 0");
        Check.same("versions", x.account(0), 3);
        x.write(0, 5, 5);
        Check.same("ledgers are apart again", Seen.ledgers(x), "3 0 0 0");
    }

    private static void backGoesBack() {
        AbbeyLedgers x = new AbbeyLedgers();
        x.write(0, 0, 1);
        x.write(1, 0, 2);
        x.write(0, 0, 3);
        x.write(0, 0, 4);
        Check.same("back", x.back(0, 1), 3);
        Check.same("back", x.back(0, 2), 0);
        Check.same("ledgers", Seen.ledgers(x), "0 2 0 0");
        Check.same("versions", x.account(0), 5);
        Check.same("a new child", x.write(0, 0, 5), 5);
        Check.same("its parent", x.versionOf(5, 0), 0);
        AbbeyLedgers full = Samples.full();
        Check.same("back by all", full.back(0, 39), 0);
    }

    private static void passLetsYearsGo() {
        AbbeyLedgers x = new AbbeyLedgers();
        Check.same("pass", x.pass(1), 1);
        x.write(0, 0, 1);
        Check.same("pass", x.pass(98), 99);
        x.write(0, 0, 2);
        Check.same("year", x.account(1), 99);
        Check.same("year of 1", x.versionOf(1, 1), 1);
        Check.same("year of 2", x.versionOf(2, 1), 99);
        Check.same("pass at once", new AbbeyLedgers().pass(99), 99);
    }
}
