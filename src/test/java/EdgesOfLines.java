/** The promises 30 to 35: the line, the mean, what was spared, and the accounts. */
final class EdgesOfLines {
    private static final int LEAST = Integer.MIN_VALUE;
    private static final int GREATEST = Integer.MAX_VALUE;
    private static final int[] NO_VERSION = {LEAST, -1, 5, 6, 40, 41, GREATEST};

    private EdgesOfLines() {
    }

    // Promise 30

    @Edge(promise = 30, says = "Throws `IndexOutOfBoundsException` if there is no such version")
    static void lineNeedsAVersion() {
        for (int version : NO_VERSION) {
            Check.noIndex("line of " + version, Samples::marked, x -> x.line(version));
        }
        Check.noIndex("line of 40 with all versions", Samples::full, x -> x.line(40));
    }

    @Edge(promise = 30, says = "Writes the amounts of a version that are not 0, in place of the line before")
    static void lineFromNoAmountToAll() {
        AbbeyLedgers x = new AbbeyLedgers();
        Check.same("no amount", Check.lineOf(x, 0), "");
        for (int line = 0; line < 16; line++) {
            x.write(0, line, 901 + line);
        }
        Check.same("the longest line", Check.lineOf(x, 16), "0=901,1=902,2=903,3=904,4=905,5=906,6=907,7=908,"
            + "8=909,9=910,10=911,11=912,12=913,13=914,14=915,15=916");
        Check.same("its length", x.line(16), 101);
        Check.same("a shorter one in its place", Check.lineOf(x, 1), "0=901");
        Check.same("an empty one in its place", Check.lineOf(x, 0), "");
        x.lineage(16);
        Check.same("in place of a lineage", Check.lineOf(x, 2), "0=901,1=902");
    }

    @Edge(promise = 30, says = "each as its line, \"=\" and the amount, with \",\" between two; as in \"3=120,15=7\"")
    static void lineOfAmountsWithOneToThreeDigits() {
        AbbeyLedgers x = new AbbeyLedgers();
        int[] amounts = {1, 9, 10, 11, 99, 100, 101, 110, 999};
        for (int i = 0; i < amounts.length; i++) {
            x.write(i % 4, 7 + i, amounts[i]);
            Check.that("line of " + amounts[i], Check.lineOf(x, i + 1).endsWith(7 + i + "=" + amounts[i]));
        }
        Check.same("as in the document", Check.lineOf(Samples.tree(), 2), "3=120,15=7");
        x.write(0, 7, 0);
        Check.same("an amount that is 0 again", Check.lineOf(x, 10), "11=99,15=999");
    }

    // Promise 31

    @Edge(promise = 31, says = "Throws `IndexOutOfBoundsException` if there is no such version")
    static void lineageNeedsAVersion() {
        for (int version : NO_VERSION) {
            Check.noIndex("lineage of " + version, Samples::marked, x -> x.lineage(version));
        }
        Check.noIndex("lineage of 40 with all versions", Samples::full, x -> x.lineage(40));
    }

    @Edge(promise = 31, says = "Writes the line of a version, in place of the line before: the versions from the "
        + "latest one on, with \"<\" between two")
    static void lineageFromOneVersionToAll() {
        AbbeyLedgers x = Samples.full();
        Check.same("one", Check.lineageOf(x, 0), "0");
        Check.same("all", Check.lineageOf(x, 39), Samples.row(39, "<"));
        Check.same("its length", x.lineage(39), 109);
        Check.same("a shorter one in its place", Check.lineageOf(x, 1), "1<0");
        x.line(39);
        Check.same("in place of a line", Check.lineageOf(x, 10), "10<9<8<7<6<5<4<3<2<1<0");
    }

    @Edge(promise = 31, says = "as in \"7<4<0\"")
    static void lineageAsInTheDocument() {
        AbbeyLedgers x = new AbbeyLedgers();
        x.write(0, 0, 1);
        x.write(0, 0, 2);
        x.write(0, 0, 3);
        x.write(1, 0, 4);
        x.write(0, 0, 5);
        x.write(0, 0, 6);
        x.write(1, 0, 7);
        Check.same("lineage", Check.lineageOf(x, 7), "7<4<0");
    }

    // Promise 32

    @Edge(promise = 32, says = "Throws `IndexOutOfBoundsException` if there is no such index")
    static void characterNeedsAnIndex() {
        for (int index : new int[] {LEAST, -1, 10, 11, 101, 109, 110, GREATEST}) {
            Check.noIndex("character at " + index, Samples::marked, x -> x.character(index));
        }
        Check.noIndex("character behind the longest line", () -> {
            AbbeyLedgers x = Samples.full();
            x.lineage(39);
            return x;
        }, x -> x.character(109));
    }

    @Edge(promise = 32, says = "the index, from 0")
    static void theFirstAndTheLastCharacter() {
        AbbeyLedgers x = Samples.marked();
        Check.same("the first", x.character(0), '3');
        Check.same("the last", x.character(9), '7');
        AbbeyLedgers y = Samples.full();
        y.lineage(39);
        Check.same("the last of the longest", y.character(108), '0');
    }

    @Edge(promise = 32, says = "Returns a character of the line, which is empty at first.")
    static void theLineIsEmptyAtFirst() {
        Check.noIndex("character at 0", AbbeyLedgers::new, x -> x.character(0));
        Check.noIndex("character at 0 of an empty line", () -> {
            AbbeyLedgers x = Samples.marked();
            x.line(0);
            return x;
        }, x -> x.character(0));
    }

    // Promises 33 and 34

    @Edge(promise = 33, says = "Throws `IndexOutOfBoundsException` if there is no such version")
    static void meanNeedsAVersion() {
        for (int version : NO_VERSION) {
            Check.noIndex("mean of " + version, Samples::marked, x -> x.mean(version));
        }
        Check.noIndex("mean of 40 with all versions", Samples::full, x -> x.mean(40));
    }

    @Edge(promise = 33, says = "the sum divided by 16, both as doubles")
    static void theLeastAndTheGreatestMean() {
        AbbeyLedgers x = new AbbeyLedgers();
        for (int line = 0; line < 16; line++) {
            x.write(0, line, 999);
        }
        x.write(1, 15, 1);
        Check.that("the least", x.mean(0) == 0.0);
        Check.that("the greatest", x.mean(16) == 999.0);
        Check.that("a sixteenth", x.mean(17) == 0.0625);
        Check.that("of one line", x.mean(1) == 62.4375);
    }

    @Edge(promise = 34, says = "Returns what part of the pages that all versions have, each version with its 31, was "
        + "not made anew: those that were not made by the version that has them, divided by all, both as floats.")
    static void sparedFromNothingOn() {
        AbbeyLedgers x = new AbbeyLedgers();
        Check.that("nothing", x.spared() == 0.0f);
        x.write(0, 0, 1);
        Check.that("26 of 62", x.spared() == 26.0f / 62.0f);
        x.graft(1, 1, 0, 15);
        Check.that("57 of 93, by a whole graft", x.spared() == 57.0f / 93.0f);
        x.graft(2, 1, 0, 0);
        Check.that("84 of 124, by a graft", x.spared() == 84.0f / 124.0f);
        x.undo();
        Check.that("57 of 93 again", x.spared() == 57.0f / 93.0f);
        Check.that("1014 of 1240", Samples.full().spared() == 1014.0f / 1240.0f);
    }

    // Promise 35

    @Edge(promise = 35, says = "Throws `IllegalArgumentException` if what is not from 0 to 8")
    static void accountNeedsANumber() {
        for (int what : new int[] {LEAST, -1, 9, 10, GREATEST}) {
            Check.noArgument("account " + what, Samples::marked, x -> x.account(what));
        }
        Check.same("the first and the last", Samples.marked().account(0) + " " + Samples.marked().account(8), "5 7");
    }

    @Edge(promise = 35, says = "0 for the versions, 1 for the year, 2 for the pages made by all versions")
    static void accountsOfVersionsYearsAndPages() {
        Check.same("at first", Seen.accounts(new AbbeyLedgers()), "1 0 31 1 1 0 0 0 0");
        AbbeyLedgers x = Samples.full();
        x.pass(99);
        Check.same("with all", x.account(0) + " " + x.account(1) + " " + x.account(2), "40 99 226");
        AbbeyLedgers y = Samples.tree();
        y.graft(3, 3, 0, 15);
        Check.same("a whole graft made no pages", y.account(2), 51);
    }

    @Edge(promise = 35, says = "3 for the versions that are the ledger of some house")
    static void ledgersFromOneToFour() {
        AbbeyLedgers x = new AbbeyLedgers();
        Check.same("one of all", x.account(3), 1);
        for (int house = 0; house < 4; house++) {
            x.write(house, 0, 1);
            Check.same("ledgers", x.account(3), house < 3 ? house + 2 : 4);
        }
        for (int house = 1; house < 4; house++) {
            x.fork(house, 0);
            Check.same("ledgers again", x.account(3), 4 - house);
        }
    }

    @Edge(promise = 35, says = "4 for the versions without any that come from them")
    static void versionsWithoutChildren() {
        AbbeyLedgers x = new AbbeyLedgers();
        Check.same("the version 0", x.account(4), 1);
        x.write(0, 0, 1);
        Check.same("the version 1", x.account(4), 1);
        x.back(0, 1);
        x.write(0, 0, 2);
        Check.same("also of no house", x.account(4), 2);
        x.graft(1, 2, 0, 15);
        Check.same("also if others have its pages", x.account(4), 3);
        Check.same("in a row", Samples.full().account(4), 1);
    }

    @Edge(promise = 35, says = "5 for the writings so far, 6 for the graftings so far")
    static void writingsAndGraftingsWithTextsButWithoutRefusedOnes() {
        AbbeyLedgers x = new AbbeyLedgers();
        Check.same("at first", x.account(5) + " " + x.account(6), "0 0");
        x.write(0, 0, 1);
        x.graft(1, 1, 0, 15);
        Samples.run(x, "w0/0=2;w0/0=3;g1/3:0-1;g1/0:0-1;g2/1:0-0");
        Check.same("with those of a text", x.account(5) + " " + x.account(6), "3 4");
        Samples.attempt(() -> x.write(0, 0, 3));
        Samples.attempt(() -> x.graft(0, 4, 0, 0));
        Samples.attempt(() -> Samples.run(x, "w0/0=9;g1/1:0-0;w0/0=9"));
        Check.same("without refused ones", x.account(5) + " " + x.account(6), "3 4");
        x.undo();
        Check.same("undone", x.account(5) + " " + x.account(6), "1 1");
    }

    @Edge(promise = 35, says = "7 for the changes that can be undone, 8 for the characters in the text buffer")
    static void changesUpToEightAndCharactersUpToSixty() {
        AbbeyLedgers x = new AbbeyLedgers();
        for (int year = 1; year <= 10; year++) {
            x.pass(1);
            Check.same("changes", x.account(7), Math.min(year, 8));
        }
        for (int length = 1; length <= 60; length++) {
            x.append('y');
            Check.same("characters", x.account(8), length);
        }
        Samples.attempt(() -> x.append('y'));
        Check.same("characters", x.account(8), 60);
        x.undo();
        Check.same("changes", x.account(7) + " " + x.account(8), "7 60");
    }
}
