/** What the terms of the document say of boundary cases, but for texts, reasons and changes. */
final class EdgesOfTerms {
    private EdgesOfTerms() {
    }

    @Edge(promise = {1, 2, 36}, says = "An object is used for at most 512 calls after it has been made")
    static void theCall512IsAnsweredAsAllOthers() {
        AbbeyLedgers x = new AbbeyLedgers();
        for (int calls = 0; calls < 510; calls += 2) {
            Check.same("write", x.write(3, 15, 999), 1);
            Check.same("undo", x.undo(), 0);
        }
        Check.same("the call 511", x.write(3, 15, 998), 1);
        Check.same("the call 512", x.amount(1, 15), 998);
    }

    @Edge(promise = {2, 8}, says = "An old ledger never changes.")
    static void theLedgerOfTwoHousesStaysForOneOfThem() {
        AbbeyLedgers x = Samples.tree();
        x.fork(2, 0);
        String old = Seen.version(x, 4);
        x.write(2, 4, 10);
        x.write(2, 0, 999);
        Check.same("the ledger of the other house", x.ledger(0), 4);
        Check.same("what it has", Seen.version(x, 4), old);
    }

    @Edge(promise = {33, 34}, says = "Divisions are rounded down, unless something else is told.")
    static void nothingIsRoundedWhereDoublesAndFloatsAreTold() {
        AbbeyLedgers x = new AbbeyLedgers();
        x.write(0, 0, 15);
        Check.that("mean of 15", x.mean(1) == 0.9375);
        Check.that("spared 26 of 62", x.spared() == 26.0f / 62.0f);
    }

    @Edge(promise = {2, 3, 8, 16}, says = "A ledger has the lines 0 to 15")
    static void theFirstAndTheLastLine() {
        AbbeyLedgers x = new AbbeyLedgers();
        Check.same("write on the line 0", x.write(0, 0, 5), 1);
        Check.same("write on the line 15", x.write(0, 15, 6), 2);
        Check.same("the line 0", x.amount(2, 0), 5);
        Check.same("the line 15", x.amount(2, 15), 6);
        Check.same("graft of both", x.graft(1, 2, 0, 15), 3);
        Check.same("since, on the line 0", x.since(2, 0), 1);
        Check.same("since, on the line 15", x.since(2, 15), 2);
        Check.refused("write on the line -1", 1, 0, AbbeyLedgers::new, y -> y.write(0, -1, 5));
        Check.refused("write on the line 16", 1, 0, AbbeyLedgers::new, y -> y.write(0, 16, 5));
        Check.noArgument("amount on the line -1", AbbeyLedgers::new, y -> y.amount(0, -1));
        Check.noArgument("amount on the line 16", AbbeyLedgers::new, y -> y.amount(0, 16));
    }

    @Edge(promise = {2, 8}, says = "each with an amount from 0 to 999")
    static void theLeastAndTheGreatestAmount() {
        AbbeyLedgers x = new AbbeyLedgers();
        Check.same("write 999", x.write(0, 7, 999), 1);
        Check.same("write 0", x.write(0, 7, 0), 2);
        Check.same("the greatest", x.amount(1, 7), 999);
        Check.same("the least", x.amount(2, 7), 0);
        Check.refused("write -1", 1, 0, AbbeyLedgers::new, y -> y.write(0, 7, -1));
        Check.refused("write 1000", 1, 0, AbbeyLedgers::new, y -> y.write(0, 7, 1000));
    }

    @Edge(promise = {2, 3, 35}, says = "There are versions of ledgers, numbered from 0, at most 40")
    static void fortyVersionsAndNoMore() {
        AbbeyLedgers x = new AbbeyLedgers();
        for (int version = 1; version < 39; version++) {
            Check.same("write", x.write(version % 4, version % 16, version), version);
        }
        Check.same("the last one, by a graft", x.graft(0, 38, 6, 6), 39);
        Check.same("versions", x.account(0), 40);
        Check.same("the amount of the last one", x.amount(39, 6), 38);
        Check.refused("one more by writing", 2, 0, Samples::full, y -> y.write(0, 0, 40));
        Check.refused("one more by grafting", 2, 0, Samples::full, y -> y.graft(0, 38, 0, 0));
        Check.textRefused("w1/1=1", 2, 0, 0, Samples::full);
    }

    @Edge(promise = {13, 31}, says = "each one but the version 0 comes from an earlier one, which is its parent")
    static void theVersion0HasNoParent() {
        AbbeyLedgers x = Samples.tree();
        Check.same("parents", x.versionOf(0, 0) + " " + x.versionOf(1, 0) + " " + x.versionOf(2, 0) + " "
            + x.versionOf(3, 0) + " " + x.versionOf(4, 0), "-1 0 1 2 1");
        Check.same("the parent of the last one", Samples.full().versionOf(39, 0), 38);
    }

    @Edge(promise = {1, 8, 30}, says = "The version 0 has only amounts of 0.")
    static void theVersion0IsEmptyAlsoLater() {
        AbbeyLedgers x = Samples.stairs();
        Check.same("amounts", Seen.amounts(x, 0), "0 0 0 0 0 0 0 0 0 0 0 0 0 0 0 0");
        Check.same("line", Check.lineOf(x, 0), "");
        Check.same("sum", x.sum(0, 0, 15), 0);
    }

    @Edge(promise = {2, 3, 36, 38}, says = "A version never changes.")
    static void whatComesLaterChangesNoVersion() {
        AbbeyLedgers x = Samples.tree();
        String two = Seen.version(x, 2);
        String three = Seen.version(x, 3);
        x.write(1, 3, 6);
        x.graft(1, 4, 0, 15);
        x.graft(0, 3, 2, 9);
        x.undo();
        x.save();
        x.write(1, 15, 1);
        x.restore();
        x.pass(3);
        x.write(0, 3, 999);
        Check.same("the version 2", Seen.version(x, 2), two);
        Check.same("the version 3", Seen.version(x, 3), three);
    }

    @Edge(promise = {13, 31}, says = "Its ancestors are its parent, and the ancestors of this")
    static void ancestorsFromNoneToAll() {
        AbbeyLedgers x = Samples.full();
        Check.same("ancestors of 0", x.versionOf(0, 2), 0);
        Check.same("ancestors of 1", x.versionOf(1, 2), 1);
        Check.same("ancestors of 39", x.versionOf(39, 2), 39);
        Check.same("ancestors in a tree", Samples.tree().versionOf(4, 2), 2);
    }

    @Edge(promise = {15, 16, 17, 20, 31}, says = "the version itself is one of its line, with all its ancestors")
    static void aVersionIsOfItsOwnLine() {
        AbbeyLedgers x = Samples.tree();
        Check.same("had", x.had(1, 2), 3);
        Check.same("since", x.since(3, 3), 3);
        Check.same("common", x.common(3, 3), 3);
        Check.that("3 of 3", x.isOf(3, 3));
        Check.that("0 of 3", x.isOf(0, 3));
        Check.same("lineage", Check.lineageOf(x, 3), "3<2<1<0");
        Check.same("lineage of 0", Check.lineageOf(x, 0), "0");
    }

    @Edge(promise = {14, 21}, says = "A span is one of the 31 that come of all lines by halving again and again")
    static void theFirstAndTheLastSpan() {
        AbbeyLedgers x = Samples.tree();
        Check.same("maker for the span 0", x.maker(2, 0), 2);
        Check.same("maker for the span 30", x.maker(2, 30), 2);
        Check.same("users for the span 0", x.users(2, 0), 1);
        Check.same("users for the span 30", x.users(2, 30), 2);
        Check.noArgument("maker for -1", Samples::marked, y -> y.maker(2, -1));
        Check.noArgument("maker for 31", Samples::marked, y -> y.maker(2, 31));
        Check.noArgument("users for -1", Samples::marked, y -> y.users(2, -1));
        Check.noArgument("users for 31", Samples::marked, y -> y.users(2, 31));
    }

    @Edge(promise = {2, 14}, says = "the span 0 has all 16 lines, and the spans 2 times k and 1 more, and 2 times k "
        + "and 2 more, are the lower and the higher half of the span k")
    static void theHalvesOfAllSpans() {
        for (int line = 0; line < 16; line++) {
            AbbeyLedgers x = new AbbeyLedgers();
            x.write(0, line, 1);
            int[] due = new int[31];
            int low = 0;
            int k = 0;
            for (int lines = 16; lines > 1; lines /= 2) {
                due[k] = 1;
                boolean isHigher = line >= low + lines / 2;
                low += isHigher ? lines / 2 : 0;
                k = 2 * k + (isHigher ? 2 : 1);
            }
            due[k] = 1;
            for (int span = 0; span < 31; span++) {
                Check.same("maker for " + span + " with the line " + line, x.maker(1, span), due[span]);
            }
        }
    }

    @Edge(promise = {3, 14}, says = "so the spans 15 to 30 have a single line")
    static void theSpans15To30HaveOneLineEach() {
        AbbeyLedgers x = Samples.stairs();
        for (int line = 0; line < 16; line++) {
            Check.same("maker for " + (15 + line), x.maker(16, 15 + line), line + 1);
        }
        x.graft(1, 16, 0, 0);
        x.graft(2, 16, 15, 15);
        Check.same("graft of the line 0", x.maker(17, 15) + " " + x.maker(17, 14) + " " + x.maker(17, 16), "1 0 0");
        Check.same("graft of the line 15", x.maker(18, 30) + " " + x.maker(18, 14) + " " + x.maker(18, 29),
            "16 18 0");
    }

    @Edge(promise = {14, 19}, says = "A version has one page for each span.")
    static void aVersionHas31Pages() {
        AbbeyLedgers x = Samples.tree();
        for (int version = 0; version < 5; version++) {
            Check.same("pages", x.shared(version, version), 31);
        }
    }

    @Edge(promise = {14, 21}, says = "A page is made by one version, and can be in many")
    static void aPageInOneAndInAllVersions() {
        AbbeyLedgers x = Samples.full();
        Check.same("a page in one version", x.users(39, 15), 1);
        Check.same("a page in all versions", x.users(39, 30), 40);
        Check.same("its maker", x.maker(39, 30), 0);
    }

    @Edge(promise = {19, 21},
        says = "two pages are the same if they are for the same span and were made by the same version")
    static void equalAmountsMakeNoSamePages() {
        AbbeyLedgers x = new AbbeyLedgers();
        x.write(0, 3, 5);
        x.write(1, 3, 5);
        Check.same("shared", x.shared(1, 2), 26);
        Check.same("users", x.users(1, 18), 1);
        Check.same("the pages of one maker for two spans", x.users(1, 0) + " " + x.users(0, 0), "1 1");
    }

    @Edge(promise = {1, 13, 14}, says = "The version 0 made all its pages.")
    static void theVersion0Made31Pages() {
        AbbeyLedgers x = Samples.full();
        Check.same("makers", Seen.makers(x, 0), "0" + " 0".repeat(30));
        Check.same("how many", x.versionOf(0, 4), 31);
    }

    @Edge(promise = {2, 3, 14}, says = "Another version has the pages of its parent, but for those that are told to "
        + "be new, which it made, and those that are taken from another version.")
    static void thePagesOfTheParentOfAnotherVersionAndNewOnes() {
        AbbeyLedgers x = Samples.tree();
        x.graft(0, 3, 12, 15);
        Check.same("makers", Seen.makers(x, 5),
            "5 4 5 1 4 0 2 0 1 4 0 0 0 0 2 0 0 0 1 4 0 0 0 0 0 0 0 0 0 0 2");
    }

    @Edge(promise = {1, 7}, says = "There are the houses 0 to 3, each with a ledger, which is a version, at first 0.")
    static void theFirstAndTheLastHouse() {
        Check.same("ledgers at first", Seen.ledgers(new AbbeyLedgers()), "0 0 0 0");
        AbbeyLedgers x = new AbbeyLedgers();
        x.write(0, 0, 1);
        x.write(3, 0, 1);
        Check.same("ledgers then", Seen.ledgers(x), "1 0 0 2");
        Check.noIndex("ledger(-1)", Samples::marked, y -> y.ledger(-1));
        Check.noIndex("ledger(4)", Samples::marked, y -> y.ledger(4));
    }

    @Edge(promise = {1, 6, 35}, says = "It is now a year from 0 to 99, at first 0")
    static void theFirstAndTheLastYear() {
        AbbeyLedgers x = new AbbeyLedgers();
        Check.same("the year at first", x.account(1), 0);
        Check.same("pass", x.pass(99), 99);
        Check.same("the last year", x.account(1), 99);
        Check.refused("a year more", 8, 1, () -> {
            AbbeyLedgers y = new AbbeyLedgers();
            y.pass(99);
            return y;
        }, y -> y.pass(1));
    }

    @Edge(promise = {2, 3, 13}, says = "a version is of the year in which it came")
    static void theYearOfAVersionStays() {
        AbbeyLedgers x = new AbbeyLedgers();
        x.write(0, 0, 1);
        x.pass(98);
        x.graft(1, 1, 0, 0);
        x.pass(1);
        x.write(1, 0, 2);
        Check.same("years", x.versionOf(0, 1) + " " + x.versionOf(1, 1) + " " + x.versionOf(2, 1) + " "
            + x.versionOf(3, 1), "0 0 98 99");
    }

    @Edge(promise = 2, says = "To write an amount on a line of the ledger of a house makes a version that comes from "
        + "it, with this amount there")
    static void oneLineOfOneHouseIsAnotherOne() {
        AbbeyLedgers x = Samples.tree();
        Check.same("write", x.write(1, 15, 0), 5);
        Check.same("parent", x.versionOf(5, 0), 3);
        Check.same("amounts", Seen.amounts(x, 5), "0 0 0 5 0 0 0 0 0 0 0 0 0 0 0 0");
    }

    @Edge(promise = {2, 13, 14}, says = "the pages for all spans that have this line are new")
    static void fivePagesAreNewForEachLine() {
        for (int line = 0; line < 16; line++) {
            AbbeyLedgers x = Samples.stairs();
            Check.same("write", x.write(0, line, 999), 17);
            Check.same("pages of the line " + line, x.versionOf(17, 4), 5);
            Check.same("the page for it", x.maker(17, 15 + line), 17);
        }
    }

    @Edge(promise = 3, says = "To graft some lines from a version, from a first one to a last one, makes one that "
        + "comes from the ledger of the house, with the amounts which that version has there")
    static void graftsOfOneLineAndOfAllLines() {
        AbbeyLedgers x = Samples.stairs();
        x.write(1, 8, 999);
        Check.same("graft of one line", x.graft(1, 16, 7, 7), 18);
        Check.same("amounts", Check.lineOf(x, 18), "7=128,8=999");
        Check.same("parent", x.versionOf(18, 0), 17);
        Check.same("graft of the lower lines", x.graft(1, 16, 0, 2), 19);
        Check.same("amounts", Check.lineOf(x, 19), "0=1,1=2,2=4,7=128,8=999");
        Check.same("graft of the higher lines", x.graft(1, 16, 9, 15), 20);
        Check.same("amounts", Check.lineOf(x, 20),
            "0=1,1=2,2=4,7=128,8=999,9=1,10=2,11=4,12=8,13=16,14=32,15=64");
        Check.same("graft of all lines", x.graft(1, 16, 0, 15), 21);
        Check.same("amounts", Seen.amounts(x, 21), Seen.amounts(x, 16));
        Check.same("parent", x.versionOf(21, 0), 20);
    }

    @Edge(promise = {3, 14}, says = "the pages for spans that have only such lines are those of that version, and the "
        + "pages for the others that have some of them are new")
    static void pagesOfGraftsFromOneLineToAll() {
        AbbeyLedgers x = Samples.stairs();
        x.graft(1, 16, 5, 5);
        Check.same("one line", Seen.makers(x, 17),
            "17 17 0 0 17 0 0 0 0 17 0 0 0 0 0 0 0 0 0 0 6 0 0 0 0 0 0 0 0 0 0");
        x.graft(2, 16, 1, 14);
        Check.same("all but the outermost lines", Seen.makers(x, 18),
            "18 18 18 18 8 12 18 18 4 6 8 10 12 14 18 0 2 3 4 5 6 7 8 9 10 11 12 13 14 15 0");
        x.graft(3, 16, 8, 15);
        Check.same("a half", Seen.makers(x, 19),
            "19 0 16 0 0 12 16 0 0 0 0 10 12 14 16 0 0 0 0 0 0 0 0 9 10 11 12 13 14 15 16");
        x.graft(3, 16, 0, 15);
        Check.same("all", Seen.makers(x, 20), Seen.makers(x, 16));
    }

    @Edge(promise = {2, 3, 7}, says = "Such a version is the ledger of the house then.")
    static void noOtherHouseHasTheNewVersion() {
        AbbeyLedgers x = new AbbeyLedgers();
        x.write(2, 0, 1);
        Check.same("ledgers", Seen.ledgers(x), "0 0 1 0");
        x.graft(3, 1, 0, 15);
        Check.same("ledgers", Seen.ledgers(x), "0 0 1 2");
        x.write(2, 0, 2);
        Check.same("ledgers", Seen.ledgers(x), "0 0 3 2");
    }

    @Edge(promise = 4, says = "A house can take over the ledger of another one")
    static void alsoAnEarlierLedgerIsTakenOver() {
        AbbeyLedgers x = Samples.tree();
        Check.same("fork", x.fork(3, 0), 4);
        Check.same("ledgers", Seen.ledgers(x), "4 3 0 4");
        Check.same("fork from the empty one", x.fork(0, 2), 0);
        Check.same("ledgers", Seen.ledgers(x), "0 3 0 4");
    }

    @Edge(promise = 5, says = "it can go back by some versions, each time to the parent")
    static void backByOneAndByAll() {
        AbbeyLedgers x = Samples.tree();
        Check.same("back by one, not to the number before", x.back(0, 1), 1);
        Check.same("back by all", x.back(1, 3), 0);
        Check.same("ledgers", Seen.ledgers(x), "1 0 0 0");
        Check.same("back by 39", Samples.full().back(0, 39), 0);
    }

    @Edge(promise = {4, 5}, says = "No version comes of that.")
    static void forkAndBackGoOnWhereThereIsNoRoom() {
        AbbeyLedgers x = Samples.full();
        Check.same("back", x.back(0, 2), 37);
        Check.same("fork", x.fork(1, 0), 37);
        Check.same("versions", x.account(0), 40);
        AbbeyLedgers y = Samples.tree();
        y.back(0, 2);
        y.fork(2, 1);
        Check.same("versions", y.account(0), 5);
        Check.same("pages", y.account(2), 51);
    }

    @Edge(promise = 3, says = "To graft lines is refused if the ledger of the house has all these amounts already, "
        + "also if its pages are other ones.")
    static void graftOfEqualAmountsWithOtherPages() {
        Check.refused("graft", 3, 2, () -> {
            AbbeyLedgers x = new AbbeyLedgers();
            x.write(0, 3, 5);
            x.write(1, 3, 5);
            return x;
        }, x -> x.graft(1, 1, 0, 15));
        Check.refused("graft of one of these lines", 3, 4, Samples::tree, x -> x.graft(0, 3, 0, 2));
        AbbeyLedgers y = Samples.tree();
        Check.same("one amount of all is another one", y.graft(0, 3, 0, 3), 5);
    }

    @Edge(promise = {16, 18, 23}, says = "Two versions of one line can differ in no amount.")
    static void anAmountThatCameAgain() {
        AbbeyLedgers x = new AbbeyLedgers();
        x.write(0, 3, 5);
        x.write(0, 3, 0);
        Check.that("0 is of the line of 2", x.isOf(0, 2));
        Check.same("apart", x.apart(0, 2), 0);
        Check.same("alike", x.alike(0), 1);
        Check.same("since", x.since(2, 3), 2);
        Check.same("common", x.common(0, 2), 0);
    }

    @Edge(promise = {2, 22}, says = "A span has a line if this is one of its lines.")
    static void neighboursAcrossTheMiddle() {
        AbbeyLedgers x = new AbbeyLedgers();
        x.write(0, 7, 1);
        x.write(1, 8, 1);
        Check.same("pages with the line 7", Seen.makers(x, 1),
            "1 1 0 0 1 0 0 0 0 0 1 0 0 0 0 0 0 0 0 0 0 0 1 0 0 0 0 0 0 0 0");
        Check.same("pages with the line 8", Seen.makers(x, 2),
            "2 0 2 0 0 2 0 0 0 0 0 2 0 0 0 0 0 0 0 0 0 0 0 2 0 0 0 0 0 0 0");
    }
}
