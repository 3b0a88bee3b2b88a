/** The reasons, and the promises 1 to 6: a new object, and the calls that change it. */
final class EdgesOfChanges {
    private static final int LEAST = Integer.MIN_VALUE;
    private static final int GREATEST = Integer.MAX_VALUE;
    private static final int[] NO_HOUSE = {LEAST, -1, 4, 5, GREATEST};
    private static final int[] NO_LINE = {LEAST, -1, 16, 17, GREATEST};

    private EdgesOfChanges() {
    }

    /** The tree, in the year 99, with the ledger of the house 1 for the house 2, too. */
    private static AbbeyLedgers late() {
        AbbeyLedgers x = Samples.tree();
        x.pass(97);
        x.fork(2, 1);
        return x;
    }

    @Edge(promise = 1, says = "Creates the version 0, which is the ledger of all houses.")
    static void aNewObjectIsEmpty() {
        AbbeyLedgers x = new AbbeyLedgers();
        Check.same("state", Seen.state(x), "0 0 0 0|1 0 31 1 1 0 0 0 0|-1 0 0");
        Check.same("the version 0", Seen.numbers(x, 0), "-1 0 0 0 31 0 4");
        Check.same("reason", Seen.reason(x), "NoSuchElementException");
        Check.same("fault", x.faultPosition(), -1);
        Check.same("line", Seen.line(x), "");
        Check.noState("undo", AbbeyLedgers::new, y -> y.undo());
        Check.noState("restore", AbbeyLedgers::new, y -> y.restore());
        new AbbeyLedgers().write(0, 0, 1);
        Check.same("another object is one by itself", x.account(0), 1);
    }

    // Reasons

    @Edge(promise = {2, 3, 4, 5, 6}, says = "1, a number is out of range")
    static void reason1IsKeptWithoutADetail() {
        Check.refused("write", 1, 0, Samples::marked, x -> x.write(4, 0, 1));
        Check.refused("graft", 1, 0, Samples::marked, x -> x.graft(0, 1, 0, 16));
        Check.refused("fork", 1, 0, Samples::marked, x -> x.fork(0, 4));
        Check.refused("back", 1, 0, Samples::marked, x -> x.back(0, 40));
        Check.refused("pass", 1, 0, Samples::marked, x -> x.pass(100));
    }

    @Edge(promise = {2, 3}, says = "2, there would be more than 40 versions")
    static void reason2IsKeptWithoutADetailFrom40VersionsOn() {
        Check.refused("write", 2, 0, Samples::full, x -> x.write(1, 15, 7));
        Check.refused("graft", 2, 0, Samples::full, x -> x.graft(1, 39, 0, 15));
        AbbeyLedgers x = Samples.full();
        x.undo();
        Check.same("the version 39 is no refusal", x.graft(1, 38, 0, 15), 39);
        Check.same("reason", Seen.reason(x), "NoSuchElementException");
    }

    @Edge(promise = {2, 3, 4},
        says = "3, it is so already: the version that is the ledger of the house, or of the first one")
    static void reason3IsKeptWithTheLedger() {
        Check.refused("write, the version 0", 3, 0, Samples::marked, x -> x.write(2, 9, 0));
        Check.refused("write", 3, 3, Samples::marked, x -> x.write(1, 15, 7));
        Check.refused("graft, not the version that is grafted", 3, 4, Samples::marked, x -> x.graft(0, 2, 0, 3));
        Check.refused("fork", 3, 3, EdgesOfChanges::late, x -> x.fork(1, 2));
        Check.refused("fork, the version 0", 3, 0, Samples::marked, x -> x.fork(3, 2));
        Check.refused("write on the last version", 3, 39, Samples::full, x -> x.write(0, 0, 39));
    }

    @Edge(promise = 3, says = "4, there is no such version: how many there are")
    static void reason4IsKeptWithTheNumberOfVersions() {
        Check.refused("graft from the first that is not there", 4, 5, Samples::marked, x -> x.graft(0, 5, 0, 0));
        Check.refused("graft from one that was undone", 4, 1, () -> {
            AbbeyLedgers x = new AbbeyLedgers();
            x.write(0, 0, 1);
            x.undo();
            return x;
        }, x -> x.graft(0, 1, 0, 0));
        Check.refused("graft from the version 40", 4, 40, Samples::full, x -> x.graft(0, 40, 0, 0));
        Check.refused("graft from -1", 4, 1, AbbeyLedgers::new, x -> x.graft(0, -1, 0, 0));
    }

    @Edge(promise = 3, says = "5, the last line is ahead of the first one: by how many lines")
    static void reason5IsKeptWithTheDistance() {
        Check.refused("graft by one", 5, 1, Samples::marked, x -> x.graft(0, 3, 1, 0));
        Check.refused("graft by one", 5, 1, Samples::marked, x -> x.graft(0, 3, 15, 14));
        Check.refused("graft by 15", 5, 15, Samples::marked, x -> x.graft(0, 3, 15, 0));
    }

    @Edge(promise = 4, says = "6, both houses are one: the house")
    static void reason6IsKeptWithTheHouse() {
        for (int house = 0; house < 4; house++) {
            int one = house;
            Check.refused("fork of " + one, 6, one, Samples::marked, x -> x.fork(one, one));
        }
    }

    @Edge(promise = 5, says = "7, the version has fewer ancestors: how many it has")
    static void reason7IsKeptWithTheAncestors() {
        Check.refused("back from 0", 7, 0, AbbeyLedgers::new, x -> x.back(3, 1));
        Check.refused("back by one too many", 7, 2, Samples::marked, x -> x.back(0, 3));
        Check.refused("back by one too many", 7, 3, Samples::marked, x -> x.back(1, 4));
        Check.refused("back by the most", 7, 3, Samples::marked, x -> x.back(1, 39));
        Check.refused("back by the most, with one ancestor too few", 7, 38, () -> {
            AbbeyLedgers x = Samples.full();
            x.back(0, 1);
            return x;
        }, x -> x.back(0, 39));
    }

    @Edge(promise = 6, says = "8, it would be behind the year 99: by how many years")
    static void reason8IsKeptWithTheYears() {
        Check.refused("pass by one too many", 8, 1, Samples::tree, x -> x.pass(98));
        Check.refused("pass by the most", 8, 2, Samples::tree, x -> x.pass(99));
        Check.refused("pass in the last year", 8, 1, EdgesOfChanges::late, x -> x.pass(1));
        Check.refused("pass by the most in the last year", 8, 99, EdgesOfChanges::late, x -> x.pass(99));
        Check.same("pass to the last year", Samples.tree().pass(97), 99);
    }

    @Edge(promise = {2, 3, 4, 5, 6, 29}, says = "If nothing else is told, the detail is 0.")
    static void aDetailGivesWayTo0() {
        AbbeyLedgers x = Samples.marked();
        Check.same("reason before", Seen.reason(x), "7 2 1");
        Check.refused("a reason without a detail", 1, 0, Samples::marked, y -> y.back(0, 0));
        Check.refused("a reason without a detail", 2, 0, Samples::full, y -> y.write(0, 0, 1));
    }

    @Edge(promise = {2, 3, 4, 5, 6}, says = "Something is refused for the first that applies of the reasons that its "
        + "method names, in the order in which it names them")
    static void theFirstReasonOfAllApplies() {
        Check.refused("write: 1 ahead of 3 and 2", 1, 0, Samples::full, x -> x.write(4, 1, 0));
        Check.refused("write: 3 ahead of 2", 3, 39, Samples::full, x -> x.write(0, 0, 39));
        Check.refused("graft: 1 ahead of 4, 5 and 2", 1, 0, Samples::full, x -> x.graft(4, 40, 5, 0));
        Check.refused("graft: 4 ahead of 5 and 2", 4, 40, Samples::full, x -> x.graft(0, 40, 5, 0));
        Check.refused("graft: 5 ahead of 3 and 2", 5, 5, Samples::full, x -> x.graft(0, 39, 5, 0));
        Check.refused("graft: 3 ahead of 2", 3, 39, Samples::full, x -> x.graft(0, 39, 0, 5));
        Check.refused("fork: 1 ahead of 6", 1, 0, Samples::marked, x -> x.fork(4, 4));
        Check.refused("fork: 6 ahead of 3", 6, 2, Samples::marked, x -> x.fork(2, 2));
        Check.refused("back: 1 ahead of 7", 1, 0, Samples::marked, x -> x.back(0, 40));
        Check.refused("pass: 1 ahead of 8", 1, 0, EdgesOfChanges::late, x -> x.pass(100));
    }

    @Edge(promise = {2, 3, 4, 5, 6, 27, 29}, says = "The reason is kept with the index of the command of a text, from "
        + "0, or 0 for another call.")
    static void theIndexIs0AgainForAnotherCall() {
        Check.textRefused("b0*9", 7, 2, 0, Samples::markedWithoutText);
        Check.textRefused("y1;b0*9", 7, 2, 1, Samples::markedWithoutText);
        Check.textRefused("y1;y1;y1;y1;y1;y1;y1;y1;y1;y1;y1;y1;y1;y1;y1;y1;y1;y1;y1;y99", 8, 19, 19,
            AbbeyLedgers::new);
        Check.refused("back", 7, 2, Samples::marked, x -> x.back(0, 9));
    }

    // Promise 2

    @Edge(promise = 2, says = "if it is refused for the reason 1")
    static void writeForAHouseThatIsNotThere() {
        for (int house : NO_HOUSE) {
            Check.refused("write for " + house, 1, 0, Samples::marked, x -> x.write(house, 0, 1));
        }
        for (int house = 0; house < 4; house++) {
            Check.same("write for " + house, Samples.marked().write(house, 0, 1), 5);
        }
    }

    @Edge(promise = 2, says = "if it is refused for the reason 1")
    static void writeOnALineThatIsNotThere() {
        for (int line : NO_LINE) {
            Check.refused("write on " + line, 1, 0, Samples::marked, x -> x.write(0, line, 1));
        }
    }

    @Edge(promise = 2, says = "if it is refused for the reason 1")
    static void writeAnAmountThatIsTooSmallOrTooLarge() {
        for (int amount : new int[] {LEAST, -999, -1, 1000, 1001, 65536, GREATEST}) {
            Check.refused("write " + amount, 1, 0, Samples::marked, x -> x.write(0, 0, amount));
        }
    }

    @Edge(promise = 2, says = "3, if the amount is there already")
    static void writeWhatIsThere() {
        Check.refused("write 0 where nothing was written", 3, 0, AbbeyLedgers::new, x -> x.write(3, 15, 0));
        Check.refused("write what an ancestor wrote", 3, 4, Samples::marked, x -> x.write(0, 3, 120));
        AbbeyLedgers x = Samples.marked();
        Check.same("what another house has", x.write(0, 3, 5), 5);
        Check.same("what it had before", x.write(0, 3, 120), 6);
        Check.same("0 where something was written", x.write(0, 3, 0), 7);
    }

    @Edge(promise = 2, says = "3, if the amount is there already, or 2")
    static void writeIntoTheFullLedgers() {
        Check.refused("write", 2, 0, Samples::full, x -> x.write(0, 0, 38));
        Check.refused("write", 2, 0, Samples::full, x -> x.write(3, 15, 999));
        Check.refused("write what is there", 3, 0, Samples::full, x -> x.write(3, 15, 0));
    }

    @Edge(promise = {2, 3, 4, 5, 6}, says = "the reason is kept")
    static void theReasonStaysThroughCallsThatAreNotRefused() {
        AbbeyLedgers x = Samples.marked();
        x.write(2, 0, 1);
        x.graft(3, 1, 0, 15);
        x.fork(3, 2);
        x.back(0, 1);
        x.pass(1);
        Check.same("reason", Seen.reason(x), "7 2 1");
    }

    // Promise 3

    @Edge(promise = 3, says = "if it is refused for the reason 1, for the house or a line")
    static void graftForAHouseThatIsNotThere() {
        for (int house : NO_HOUSE) {
            Check.refused("graft for " + house, 1, 0, Samples::marked, x -> x.graft(house, 1, 3, 3));
        }
    }

    @Edge(promise = 3, says = "if it is refused for the reason 1, for the house or a line")
    static void graftOfLinesThatAreNotThere() {
        for (int line : NO_LINE) {
            Check.refused("graft from " + line, 1, 0, Samples::marked, x -> x.graft(2, 1, line, 15));
            Check.refused("graft to " + line, 1, 0, Samples::marked, x -> x.graft(2, 1, 0, line));
            Check.refused("graft of " + line, 1, 0, Samples::marked, x -> x.graft(2, 1, line, line));
        }
    }

    @Edge(promise = 3, says = "if it is refused for the reason 1, for the house or a line, 4")
    static void graftFromAVersionThatIsNotThere() {
        for (int version : new int[] {LEAST, -40, -1, 5, 6, 39, 40, 41, 1 << 27, GREATEST}) {
            Check.refused("graft from " + version, 4, 5, Samples::marked, x -> x.graft(0, version, 3, 3));
        }
        Check.same("graft from the first version", Samples.marked().graft(0, 0, 3, 3), 5);
        Check.same("graft from the last version", Samples.marked().graft(1, 4, 3, 4), 5);
    }

    @Edge(promise = 3, says = "4, 5, 3 or 2")
    static void graftOfLinesTurnedRound() {
        for (int first = 1; first < 16; first++) {
            int line = first;
            Check.refused("graft from " + line, 5, 1, Samples::marked, x -> x.graft(2, 1, line, line - 1));
            Check.refused("graft from " + line, 5, line, Samples::marked, x -> x.graft(2, 1, line, 0));
        }
        Check.same("graft of one line", Samples.marked().graft(2, 1, 3, 3), 5);
    }

    @Edge(promise = 3, says = "4, 5, 3 or 2")
    static void graftOfWhatIsThere() {
        Check.refused("graft of its own", 3, 4, Samples::marked, x -> x.graft(0, 4, 0, 15));
        Check.refused("graft of lines ahead of others", 3, 4, Samples::marked, x -> x.graft(0, 1, 0, 3));
        Check.refused("graft of lines behind others", 3, 4, Samples::marked, x -> x.graft(0, 1, 5, 15));
        Check.refused("graft between others", 3, 4, Samples::marked, x -> x.graft(0, 3, 5, 14));
        Check.same("graft with one other line at the end", Samples.marked().graft(0, 3, 5, 15), 5);
        Check.same("graft with one other line at the start", Samples.marked().graft(0, 1, 4, 14), 5);
    }

    @Edge(promise = 3, says = "4, 5, 3 or 2")
    static void graftIntoTheFullLedgers() {
        Check.refused("graft", 2, 0, Samples::full, x -> x.graft(0, 38, 0, 0));
        Check.refused("graft of what is there", 3, 39, Samples::full, x -> x.graft(0, 38, 1, 15));
        Check.refused("graft for an empty house", 2, 0, Samples::full, x -> x.graft(3, 1, 0, 15));
    }

    // Promise 4

    @Edge(promise = 4, says = "if it is refused for the reason 1")
    static void forkOfHousesThatAreNotThere() {
        for (int house : NO_HOUSE) {
            Check.refused("fork of " + house, 1, 0, Samples::marked, x -> x.fork(house, 0));
            Check.refused("fork from " + house, 1, 0, Samples::marked, x -> x.fork(0, house));
            Check.refused("fork of and from " + house, 1, 0, Samples::marked, x -> x.fork(house, house));
        }
    }

    @Edge(promise = 4, says = "if it is refused for the reason 1, 6 or 3")
    static void forkOfOneHouse() {
        Check.refused("fork(0, 0)", 6, 0, Samples::marked, x -> x.fork(0, 0));
        Check.refused("fork(3, 3)", 6, 3, Samples::marked, x -> x.fork(3, 3));
    }

    @Edge(promise = 4, says = "if it is refused for the reason 1, 6 or 3")
    static void forkOfOneLedger() {
        Check.refused("fork of empty houses", 3, 0, AbbeyLedgers::new, x -> x.fork(0, 3));
        Check.refused("fork", 3, 3, EdgesOfChanges::late, x -> x.fork(2, 1));
        AbbeyLedgers x = new AbbeyLedgers();
        x.write(0, 3, 5);
        x.write(1, 3, 5);
        Check.same("fork of equal amounts, but another version", x.fork(0, 1), 2);
    }

    // Promise 5

    @Edge(promise = 5, says = "if it is refused for the reason 1 or 7")
    static void backForAHouseThatIsNotThere() {
        for (int house : NO_HOUSE) {
            Check.refused("back for " + house, 1, 0, Samples::marked, x -> x.back(house, 1));
        }
    }

    @Edge(promise = 5, says = "by how many versions, 1 to 39")
    static void backByTooFewOrTooMany() {
        for (int versions : new int[] {LEAST, -39, -1, 0, 40, 41, GREATEST}) {
            Check.refused("back by " + versions, 1, 0, Samples::full, x -> x.back(0, versions));
        }
        Check.same("back by 1", Samples.full().back(0, 1), 38);
        Check.same("back by 39", Samples.full().back(0, 39), 0);
    }

    @Edge(promise = 5, says = "if it is refused for the reason 1 or 7")
    static void backByMoreThanThereAre() {
        Check.refused("back by 4 of 3", 7, 3, Samples::marked, x -> x.back(1, 4));
        Check.same("back by 3 of 3", Samples.marked().back(1, 3), 0);
        Check.refused("back by 1 of none", 7, 0, Samples::marked, x -> x.back(2, 1));
    }

    // Promise 6

    @Edge(promise = 6, says = "how many, 1 to 99")
    static void passByTooFewOrTooMany() {
        for (int years : new int[] {LEAST, -99, -1, 0, 100, 101, GREATEST - 2, GREATEST - 1, GREATEST}) {
            Check.refused("pass by " + years, 1, 0, Samples::marked, x -> x.pass(years));
        }
        Check.same("pass by 1", new AbbeyLedgers().pass(1), 1);
        Check.same("pass by 99", new AbbeyLedgers().pass(99), 99);
    }

    @Edge(promise = 6, says = "if it is refused for the reason 1 or 8")
    static void passBehindTheLastYear() {
        Check.refused("pass by 98 in the year 2", 8, 1, Samples::marked, x -> x.pass(98));
        Check.same("pass by 97 in the year 2", Samples.marked().pass(97), 99);
        Check.refused("pass by 100 in the last year", 1, 0, EdgesOfChanges::late, x -> x.pass(100));
        Check.refused("pass by 0 in the last year", 1, 0, EdgesOfChanges::late, x -> x.pass(0));
    }
}
