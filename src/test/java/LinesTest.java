/** Promises 30 to 35: the line, the mean, what was spared, and the accounts. */
final class LinesTest {
    public static void main(String[] args) {
        line();
        lineage();
        mean();
        spared();
        account();
        accountOfPages();
        Check.end("LinesTest");
    }

    private static void line() {
        AbbeyLedgers x = new AbbeyLedgers();
        Check.same("an empty line", Check.lineOf(x, 0), "");
        x.write(0, 15, 7);
        x.write(0, 3, 120);
        Check.same("line", Check.lineOf(x, 2), "3=120,15=7");
        Check.same("line", Check.lineOf(x, 1), "15=7");
        x.write(0, 10, 10);
        x.write(0, 0, 999);
        Check.same("line", Check.lineOf(x, 4), "0=999,3=120,10=10,15=7");
        x.write(0, 3, 100);
        x.write(0, 15, 0);
        Check.same("line", Check.lineOf(x, 6), "0=999,3=100,10=10");
        x.write(0, 10, 99);
        x.write(0, 0, 9);
        Check.same("line", Check.lineOf(x, 8), "0=9,3=100,10=99");
        Check.same("in place of the one before", Check.lineOf(x, 0), "");
    }

    private static void lineage() {
        AbbeyLedgers x = new AbbeyLedgers();
        Check.same("lineage", Check.lineageOf(x, 0), "0");
        x.write(0, 0, 1);
        x.write(1, 0, 1);
        x.write(0, 0, 2);
        x.graft(1, 3, 0, 15);
        Check.same("lineage", Check.lineageOf(x, 3), "3<1<0");
        Check.same("lineage of a graft", Check.lineageOf(x, 4), "4<2<0");
        Check.same("lineage", Check.lineageOf(x, 1), "1<0");
    }

    private static void mean() {
        AbbeyLedgers x = new AbbeyLedgers();
        Check.that("mean(0)", x.mean(0) == 0.0);
        x.write(0, 0, 1);
        Check.that("mean(1)", x.mean(1) == 0.0625);
        x.write(0, 15, 999);
        Check.that("mean(2)", x.mean(2) == 62.5);
        x.graft(1, 2, 15, 15);
        Check.that("mean(3)", x.mean(3) == 62.4375);
    }

    private static void spared() {
        AbbeyLedgers x = new AbbeyLedgers();
        Check.that("nothing spared", x.spared() == 0.0f);
        x.write(0, 0, 1);
        Check.that("26 of 62", x.spared() == 26.0f / 62.0f);
        x.graft(1, 1, 0, 15);
        Check.that("57 of 93", x.spared() == 57.0f / 93.0f);
        x.undo();
        Check.that("26 of 62 again", x.spared() == 26.0f / 62.0f);
        Check.that("1014 of 1240", Samples.full().spared() == 1014.0f / 1240.0f);
    }

    private static void account() {
        AbbeyLedgers x = new AbbeyLedgers();
        Check.same("accounts", Seen.accounts(x), "1 0 31 1 1 0 0 0 0");
        x.write(0, 3, 120);
        Check.same("accounts", Seen.accounts(x), "2 0 36 2 1 1 0 1 0");
        x.write(1, 3, 120);
        x.pass(7);
        Check.same("accounts", Seen.accounts(x), "3 7 41 3 2 2 0 3 0");
        x.graft(2, 1, 0, 7);
        x.fork(3, 2);
        Check.same("accounts", Seen.accounts(x), "4 7 42 3 3 2 1 5 0");
        x.back(0, 1);
        x.append('y');
        x.append('1');
        Check.same("accounts", Seen.accounts(x), "4 7 42 3 3 2 1 6 2");
        x.commands();
        x.fork(1, 2);
        x.fork(0, 1);
        Check.same("accounts", Seen.accounts(x), "4 8 42 1 3 2 1 8 0");
    }

    private static void accountOfPages() {
        AbbeyLedgers x = new AbbeyLedgers();
        x.write(0, 0, 1);
        x.write(0, 15, 1);
        x.graft(1, 2, 0, 15);
        x.graft(2, 2, 0, 0);
        int pages = 0;
        for (int version = 0; version < 5; version++) {
            pages += x.versionOf(version, 4);
        }
        Check.same("pages made by all", x.account(2), pages);
        Check.same("pages made by all", x.account(2), 31 + 5 + 5 + 0 + 4);
    }
}
