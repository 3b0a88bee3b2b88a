import java.util.function.Consumer;

/** The promises 7 to 25: what is read of houses, versions, lines and pages. */
final class EdgesOfReading {
    private static final int LEAST = Integer.MIN_VALUE;
    private static final int GREATEST = Integer.MAX_VALUE;

    /** What is no house, no line, no span and so on; the versions are those of what is marked. */
    private static final int[] NO_HOUSE = {LEAST, -1, 4, 5, GREATEST};
    private static final int[] NO_LINE = {LEAST, -16, -1, 16, 17, GREATEST};
    private static final int[] NO_SPAN = {LEAST, -31, -1, 31, 32, GREATEST};
    private static final int[] NO_VERSION = {LEAST, -40, -1, 5, 6, 39, 40, 41, 138547333, GREATEST};

    private EdgesOfReading() {
    }

    private interface OnVersion {
        void on(AbbeyLedgers x, int version);
    }

    private interface OnLines {
        void on(AbbeyLedgers x, int first, int last);
    }

    /** The call throws where there is no such version, and answers for the first and the last one. */
    private static void needsVersion(String name, OnVersion call) {
        for (int version : NO_VERSION) {
            Check.noIndex(name + " of " + version, Samples::marked, x -> call.on(x, version));
        }
        Check.noIndex(name + " of 40 with all versions", Samples::full, x -> call.on(x, 40));
        answers(name + " of the first version", x -> call.on(x, 0));
        answers(name + " of the last version", x -> call.on(x, 4));
    }

    private static void needsLines(String name, OnLines call) {
        for (int line : NO_LINE) {
            Check.noArgument(name + " from " + line, Samples::marked, x -> call.on(x, line, 15));
            Check.noArgument(name + " to " + line, Samples::marked, x -> call.on(x, 0, line));
            Check.noArgument(name + " of " + line, Samples::marked, x -> call.on(x, line, line));
        }
        for (int first = 1; first < 16; first++) {
            int line = first;
            Check.noArgument(name + " from " + line + " back by 1", Samples::marked, x -> call.on(x, line, line - 1));
            Check.noArgument(name + " from " + line + " back to 0", Samples::marked, x -> call.on(x, line, 0));
        }
        answers(name + " of the line 0", x -> call.on(x, 0, 0));
        answers(name + " of the line 15", x -> call.on(x, 15, 15));
        answers(name + " of all lines", x -> call.on(x, 0, 15));
    }

    private static void answers(String name, Consumer<AbbeyLedgers> call) {
        boolean answers = true;
        try {
            call.accept(Samples.marked());
        } catch (RuntimeException e) {
            answers = false;
        }
        Check.that(name + " answers", answers);
    }

    // Promises 7 and 8

    @Edge(promise = 7, says = "Throws `IndexOutOfBoundsException` if there is no such house")
    static void ledgerNeedsAHouse() {
        for (int house : NO_HOUSE) {
            Check.noIndex("ledger of " + house, Samples::marked, x -> x.ledger(house));
        }
        Check.same("ledgers", Seen.ledgers(Samples.marked()), "4 3 0 0");
    }

    @Edge(promise = 8, says = "Throws `IndexOutOfBoundsException` if there is no such version")
    static void amountNeedsAVersion() {
        needsVersion("amount", (x, version) -> x.amount(version, 0));
    }

    @Edge(promise = 8, says = "Throws `IllegalArgumentException` if there is no such line")
    static void amountNeedsALine() {
        for (int line : NO_LINE) {
            Check.noArgument("amount on " + line, Samples::marked, x -> x.amount(4, line));
        }
        Check.same("amount on the line 0", Samples.full().amount(39, 0), 39);
        Check.same("amount on the line 15", Samples.tree().amount(2, 15), 7);
    }

    // Promises 9 and 10

    @Edge(promise = 9, says = "Throws `IndexOutOfBoundsException` if there is no such version")
    static void sumNeedsAVersion() {
        needsVersion("sum", (x, version) -> x.sum(version, 0, 15));
    }

    @Edge(promise = 9, says = "Throws `IllegalArgumentException` if there is no such line, for either, or the last "
        + "one is ahead of the first one")
    static void sumNeedsLines() {
        needsLines("sum", (x, first, last) -> x.sum(4, first, last));
    }

    @Edge(promise = 10, says = "Throws `IndexOutOfBoundsException` if there is no such version")
    static void sumAgainNeedsAVersion() {
        needsVersion("sumAgain", (x, version) -> x.sumAgain(version, 0, 15));
    }

    @Edge(promise = 10, says = "Throws `IllegalArgumentException` if there is no such line, for either, or the last "
        + "one is ahead of the first one")
    static void sumAgainNeedsLines() {
        needsLines("sumAgain", (x, first, last) -> x.sumAgain(4, first, last));
    }

    @Edge(promise = 9, says = "Returns the amounts from one line to another one together: by pages.")
    static void sumsOfAllLines() {
        for (int first = 0; first < 16; first++) {
            AbbeyLedgers x = Samples.stairs();
            int due = 0;
            for (int last = first; last < 16; last++) {
                due += 1 << last % 9;
                Check.same("sum from " + first + " to " + last, x.sum(16, first, last), due);
            }
        }
    }

    @Edge(promise = 10, says = "Returns the same by a second way: line by line.")
    static void sumsOfAllLinesTheSecondWay() {
        for (int first = 0; first < 16; first++) {
            AbbeyLedgers x = Samples.stairs();
            for (int last = first; last < 16; last++) {
                Check.same("sum from " + first + " to " + last, x.sumAgain(16, first, last), x.sum(16, first, last));
            }
        }
    }

    @Edge(promise = {9, 10}, says = "Returns the sum.")
    static void sumsOfGraftedPages() {
        AbbeyLedgers x = Samples.stairs();
        x.write(1, 0, 500);
        x.write(1, 15, 300);
        Check.same("graft", x.graft(1, 16, 5, 9), 19);
        Check.same("all lines", x.sum(19, 0, 15) + " " + x.sumAgain(19, 0, 15), "1281 1281");
        Check.same("the lower half", x.sum(19, 0, 7) + " " + x.sumAgain(19, 0, 7), "724 724");
        Check.same("the higher half", x.sum(19, 8, 15) + " " + x.sumAgain(19, 8, 15), "557 557");
        Check.same("within", x.sum(19, 4, 11) + " " + x.sumAgain(19, 4, 11), "481 481");
    }

    @Edge(promise = {9, 10}, says = "Returns the sum.")
    static void theLeastAndTheGreatestSum() {
        AbbeyLedgers x = new AbbeyLedgers();
        for (int line = 0; line < 16; line++) {
            x.write(2, line, 999);
        }
        Check.same("the greatest sum", x.sum(16, 0, 15), 15984);
        Check.same("the greatest sum, the second way", x.sumAgain(16, 0, 15), 15984);
        Check.same("the least sum", x.sum(0, 0, 15), 0);
        Check.same("the least sum, the second way", x.sumAgain(0, 0, 15), 0);
    }

    // Promises 11 and 12

    @Edge(promise = 11, says = "Throws `IndexOutOfBoundsException` if there is no such version")
    static void mostNeedsAVersion() {
        needsVersion("most", (x, version) -> x.most(version, 0, 15));
    }

    @Edge(promise = 11, says = "Throws `IllegalArgumentException` if there is no such line, for either, or the last "
        + "one is ahead of the first one")
    static void mostNeedsLines() {
        needsLines("most", (x, first, last) -> x.most(4, first, last));
    }

    @Edge(promise = 11, says = "of several the lowest")
    static void mostOfSeveralEqualAmounts() {
        AbbeyLedgers x = new AbbeyLedgers();
        x.write(0, 3, 50);
        x.write(0, 7, 50);
        x.write(0, 12, 50);
        Check.same("of all", x.most(3, 0, 15), 3);
        Check.same("of two at the ends", x.most(3, 7, 12), 7);
        Check.same("of none that is above 0", x.most(3, 13, 15), 13);
        Check.same("of nothing at all", x.most(0, 0, 15), 0);
    }

    @Edge(promise = 11, says = "from one line to another one")
    static void mostWithinItsLinesOnly() {
        AbbeyLedgers x = new AbbeyLedgers();
        x.write(0, 3, 50);
        x.write(0, 8, 60);
        x.write(0, 15, 70);
        Check.same("with the first line", x.most(3, 3, 7), 3);
        Check.same("with the last line", x.most(3, 3, 8), 8);
        Check.same("with the line 15", x.most(3, 0, 15), 15);
        Check.same("without the line 15", x.most(3, 0, 14), 8);
        Check.same("without the line 3", x.most(3, 4, 7), 4);
        Check.same("of one line", x.most(3, 15, 15), 15);
    }

    @Edge(promise = 12, says = "Throws `IndexOutOfBoundsException` if there is no such version")
    static void reachedNeedsAVersion() {
        needsVersion("reached", (x, version) -> x.reached(version, 0));
    }

    @Edge(promise = 12, says = "Throws `NoSuchElementException` if there is none")
    static void reachedByNoLine() {
        Check.noElement("one too many", Samples::marked, x -> x.reached(2, 128));
        Check.same("just reached", Samples.marked().reached(2, 127), 15);
        Check.noElement("the greatest number", Samples::marked, x -> x.reached(2, GREATEST));
        Check.noElement("1 of none", Samples::marked, x -> x.reached(0, 1));
    }

    @Edge(promise = 12, says = "the sum, any number")
    static void reachedForSumsThatAreTooSmall() {
        AbbeyLedgers x = Samples.tree();
        Check.same("the least number", x.reached(2, LEAST), 0);
        Check.same("-1", x.reached(2, -1), 0);
        Check.same("0", x.reached(2, 0), 0);
        Check.same("0 of none", x.reached(0, 0), 0);
    }

    @Edge(promise = 12, says = "Returns the lowest line at which the amounts of this and all lower lines together are "
        + "not below a sum.")
    static void reachedAtTheLowestLine() {
        AbbeyLedgers x = Samples.tree();
        Check.same("1", x.reached(2, 1), 3);
        Check.same("120", x.reached(2, 120), 3);
        Check.same("121", x.reached(2, 121), 15);
        AbbeyLedgers y = Samples.full();
        Check.same("on the line 0", y.reached(39, 39), 0);
    }

    // Promise 13

    @Edge(promise = 13, says = "Throws `IndexOutOfBoundsException` if there is no such version")
    static void versionOfNeedsAVersion() {
        for (int what = 0; what <= 6; what++) {
            int number = what;
            needsVersion("versionOf " + what, (x, version) -> x.versionOf(version, number));
        }
    }

    @Edge(promise = 13, says = "Throws `IllegalArgumentException` if what is not from 0 to 6")
    static void versionOfNeedsANumber() {
        for (int what : new int[] {LEAST, -1, 7, 8, GREATEST}) {
            Check.noArgument("versionOf " + what, Samples::marked, x -> x.versionOf(4, what));
        }
    }

    @Edge(promise = 13, says = "0 for its parent, -1 for none")
    static void onlyTheVersion0HasNoParent() {
        AbbeyLedgers x = Samples.tree();
        Check.same("the version 0", x.versionOf(0, 0), -1);
        Check.same("a child of 0", x.versionOf(1, 0), 0);
    }

    @Edge(promise = 13, says = "1 for its year")
    static void yearsFromTheFirstToTheLast() {
        AbbeyLedgers x = new AbbeyLedgers();
        x.write(0, 0, 1);
        x.pass(99);
        x.write(0, 0, 2);
        Check.same("years", x.versionOf(0, 1) + " " + x.versionOf(1, 1) + " " + x.versionOf(2, 1), "0 0 99");
    }

    @Edge(promise = 13, says = "2 for its ancestors")
    static void ancestorsOfTheFirstAndTheLast() {
        AbbeyLedgers x = Samples.full();
        Check.same("ancestors of 0", x.versionOf(0, 2), 0);
        Check.same("ancestors of 39", x.versionOf(39, 2), 39);
    }

    @Edge(promise = 13, says = "3 for the versions of which it is the parent")
    static void versionsWithoutChildrenAndWithMany() {
        AbbeyLedgers x = new AbbeyLedgers();
        for (int version = 1; version < 40; version++) {
            x.write(0, 0, version);
            x.back(0, 1);
        }
        Check.same("of all others", x.versionOf(0, 3), 39);
        Check.same("of none", x.versionOf(39, 3), 0);
        x.undo();
        x.undo();
        Check.same("without the one that was undone", x.versionOf(0, 3), 38);
        AbbeyLedgers y = Samples.tree();
        y.graft(3, 2, 0, 15);
        Check.same("not of those that take its pages", y.versionOf(2, 3), 1);
    }

    @Edge(promise = 13, says = "4 for the pages that it made")
    static void noPageAndAllPages() {
        AbbeyLedgers x = Samples.tree();
        x.graft(3, 3, 0, 15);
        x.graft(2, 3, 3, 3);
        Check.same("the version 0", x.versionOf(0, 4), 31);
        Check.same("a written one", x.versionOf(4, 4), 5);
        Check.same("a wholly grafted one", x.versionOf(5, 4), 0);
        Check.same("a graft of one line", x.versionOf(6, 4), 4);
    }

    @Edge(promise = 13, says = "5 for the lines in which it differs from its parent, 0 for the version 0")
    static void linesThatAreOtherOnesThanInTheParent() {
        AbbeyLedgers x = Samples.stairs();
        x.graft(1, 16, 0, 15);
        x.graft(1, 1, 0, 15);
        Check.same("the version 0", x.versionOf(0, 5), 0);
        Check.same("a written one", x.versionOf(16, 5), 1);
        Check.same("all lines", x.versionOf(17, 5), 16);
        Check.same("all lines but one", x.versionOf(18, 5), 15);
        AbbeyLedgers y = Samples.tree();
        y.graft(0, 3, 0, 15);
        Check.same("only those with another amount", y.versionOf(5, 5), 3);
    }

    @Edge(promise = 13, says = "6 for the houses whose ledger it is")
    static void ledgerOfNoHouseAndOfAll() {
        AbbeyLedgers x = new AbbeyLedgers();
        Check.same("of all", x.versionOf(0, 6), 4);
        x.write(3, 0, 1);
        Check.same("of one", x.versionOf(1, 6), 1);
        Check.same("of three", x.versionOf(0, 6), 3);
        x.fork(0, 3);
        x.fork(1, 3);
        x.fork(2, 3);
        Check.same("of none", x.versionOf(0, 6), 0);
        Check.same("of all", x.versionOf(1, 6), 4);
    }

    // Promise 14

    @Edge(promise = 14, says = "Throws `IndexOutOfBoundsException` if there is no such version")
    static void makerNeedsAVersion() {
        needsVersion("maker", (x, version) -> x.maker(version, 30));
    }

    @Edge(promise = 14, says = "Throws `IllegalArgumentException` if there is no such span")
    static void makerNeedsASpan() {
        for (int span : NO_SPAN) {
            Check.noArgument("maker for " + span, Samples::marked, x -> x.maker(4, span));
        }
        Check.same("the first and the last span", Samples.tree().maker(2, 0) + " " + Samples.tree().maker(2, 30),
            "2 2");
    }

    // Promise 15

    @Edge(promise = 15, says = "Throws `IndexOutOfBoundsException` if there is no such house")
    static void hadNeedsAHouse() {
        for (int house : NO_HOUSE) {
            Check.noIndex("had " + house, Samples::marked, x -> x.had(house, 0));
        }
        Check.same("the first and the last house", Samples.tree().had(0, 0) + " " + Samples.tree().had(3, 0), "1 0");
    }

    @Edge(promise = 15, says = "Throws `IllegalArgumentException` if the year is not from 0 to 99")
    static void hadNeedsAYear() {
        for (int year : new int[] {LEAST, -1, 100, 101, GREATEST}) {
            Check.noArgument("had in " + year, Samples::marked, x -> x.had(0, year));
        }
        Check.same("the first and the last year", Samples.tree().had(1, 0) + " " + Samples.tree().had(1, 99), "2 3");
    }

    @Edge(promise = 15, says = "Returns the latest version of the line of the ledger of a house that is not of a "
        + "later year.")
    static void hadUpToAYearItself() {
        AbbeyLedgers x = new AbbeyLedgers();
        x.pass(5);
        x.write(0, 0, 1);
        x.write(0, 0, 2);
        x.pass(1);
        x.write(0, 0, 3);
        x.write(1, 0, 4);
        Check.same("before all others", x.had(0, 4), 0);
        Check.same("the latest of a year", x.had(0, 5), 2);
        Check.same("the ledger itself", x.had(0, 6), 3);
        Check.same("in a year to come", x.had(0, 99), 3);
        Check.same("not of the line", x.had(1, 5), 0);
        x.back(0, 2);
        Check.same("not behind the ledger", x.had(0, 99), 1);
        x.pass(93);
        x.write(0, 0, 9);
        Check.same("in the last year", x.had(0, 99), 5);
        Check.same("a year ahead of the last one", x.had(0, 98), 1);
    }

    // Promise 16

    @Edge(promise = 16, says = "Throws `IndexOutOfBoundsException` if there is no such version")
    static void sinceNeedsAVersion() {
        needsVersion("since", (x, version) -> x.since(version, 0));
    }

    @Edge(promise = 16, says = "Throws `IllegalArgumentException` if there is no such line")
    static void sinceNeedsALine() {
        for (int line : NO_LINE) {
            Check.noArgument("since, on " + line, Samples::marked, x -> x.since(4, line));
        }
        Check.same("the first and the last line", Samples.tree().since(3, 0) + " " + Samples.tree().since(3, 15),
            "0 2");
    }

    @Edge(promise = 16, says = "from which on, up to this, all have the same amount")
    static void sinceAnAmountCameTheLastTime() {
        AbbeyLedgers x = new AbbeyLedgers();
        x.write(0, 0, 5);
        x.write(0, 0, 6);
        x.write(0, 0, 5);
        x.write(1, 1, 8);
        x.write(0, 1, 7);
        Check.same("the amount was another one in between", x.since(5, 0), 3);
        Check.same("the version itself", x.since(5, 1), 5);
        Check.same("the version 0", x.since(5, 2), 0);
        Check.same("only those of the line", x.since(4, 1), 4);
        Check.same("of the version 0", x.since(0, 15), 0);
        Check.same("through all versions", Samples.full().since(39, 15), 0);
        Check.same("through no other version", Samples.full().since(39, 0), 39);
    }

    @Edge(promise = 16, says = "Returns the earliest version.")
    static void sinceForPagesThatAreOtherOnes() {
        AbbeyLedgers x = Samples.tree();
        x.write(2, 3, 120);
        x.graft(2, 3, 2, 15);
        x.graft(2, 1, 3, 3);
        x.graft(2, 0, 15, 15);
        Check.same("an equal amount by another page", x.since(8, 3), 7);
        x.graft(2, 2, 3, 15);
        Check.same("an equal amount by a page that was grafted", x.since(9, 3), 7);
    }

    // Promises 17 to 20

    @Edge(promise = 17, says = "Throws `IndexOutOfBoundsException` if there is no such version, for either")
    static void commonNeedsVersions() {
        needsVersion("common, the one,", (x, version) -> x.common(version, 2));
        needsVersion("common, the other,", (x, version) -> x.common(2, version));
    }

    @Edge(promise = 17, says = "the other version, possibly the same")
    static void commonOfOneAndTheSame() {
        AbbeyLedgers x = Samples.tree();
        Check.same("of 0", x.common(0, 0), 0);
        Check.same("of 4", x.common(4, 4), 4);
    }

    @Edge(promise = 17, says = "Returns the latest version that is of the lines of two versions.")
    static void commonFromNoneButTheVersion0ToOneOfTheTwo() {
        AbbeyLedgers x = Samples.tree();
        x.write(2, 0, 1);
        Check.same("no more than the version 0", x.common(5, 4), 0);
        Check.same("where they parted", x.common(3, 4), 1);
        Check.same("the other way round", x.common(4, 3), 1);
        Check.same("one of the two", x.common(2, 3), 2);
        Check.same("the other of the two", x.common(3, 1), 1);
    }

    @Edge(promise = 17, says = "Returns the latest common version.")
    static void commonAcrossAllVersions() {
        Check.same("the first and the last", Samples.full().common(39, 0), 0);
        Check.same("the last two", Samples.full().common(38, 39), 38);
    }

    @Edge(promise = 18, says = "Throws `IndexOutOfBoundsException` if there is no such version, for either")
    static void apartNeedsVersions() {
        needsVersion("apart, the one,", (x, version) -> x.apart(version, 2));
        needsVersion("apart, the other,", (x, version) -> x.apart(2, version));
    }

    @Edge(promise = 18, says = "Returns in how many lines two versions differ.")
    static void apartFromNoLineToAll() {
        AbbeyLedgers x = Samples.stairs();
        for (int version = 0; version <= 16; version++) {
            Check.same("apart from 0", x.apart(version, 0), version);
            Check.same("apart from the last", x.apart(version, 16), 16 - version);
        }
        Check.same("one and the same", x.apart(16, 16), 0);
        x.write(1, 0, 1);
        Check.same("equal amounts", x.apart(17, 1), 0);
    }

    @Edge(promise = 19, says = "Throws `IndexOutOfBoundsException` if there is no such version, for either")
    static void sharedNeedsVersions() {
        needsVersion("shared, the one,", (x, version) -> x.shared(version, 2));
        needsVersion("shared, the other,", (x, version) -> x.shared(2, version));
    }

    @Edge(promise = 19, says = "31 for one and the same")
    static void sharedFromNoPageToAll() {
        AbbeyLedgers x = Samples.stairs();
        Check.same("one and the same", x.shared(7, 7), 31);
        Check.same("the version 0", x.shared(0, 0), 31);
        Check.same("no page", x.shared(0, 16), 0);
        Check.same("a parent", x.shared(15, 16), 26);
        x.graft(1, 16, 0, 15);
        Check.same("a whole graft", x.shared(17, 16), 31);
    }

    @Edge(promise = 20, says = "Throws `IndexOutOfBoundsException` if there is no such version, for either")
    static void isOfNeedsVersions() {
        needsVersion("isOf, the one,", (x, version) -> x.isOf(version, 2));
        needsVersion("isOf, the other,", (x, version) -> x.isOf(2, version));
    }

    @Edge(promise = 20, says = "Returns whether a version is of the line of another one.")
    static void isOfItselfButNotOfAnEarlierOne() {
        AbbeyLedgers x = Samples.tree();
        Check.that("itself", x.isOf(4, 4));
        Check.that("the version 0 of itself", x.isOf(0, 0));
        Check.that("the version 0", x.isOf(0, 4));
        Check.that("a parent", x.isOf(1, 4));
        Check.that("not a child", !x.isOf(4, 1));
        Check.that("not an earlier one of another line", !x.isOf(2, 4));
        Check.that("not a later one of another line", !x.isOf(4, 3));
    }

    // Promises 21 and 22

    @Edge(promise = 21, says = "Throws `IndexOutOfBoundsException` if there is no such version")
    static void usersNeedsAVersion() {
        needsVersion("users", (x, version) -> x.users(version, 30));
    }

    @Edge(promise = 21, says = "Throws `IllegalArgumentException` if there is no such span")
    static void usersNeedsASpan() {
        for (int span : NO_SPAN) {
            Check.noArgument("users for " + span, Samples::marked, x -> x.users(4, span));
        }
        Check.same("the first and the last span", Samples.tree().users(4, 0) + " " + Samples.tree().users(4, 30),
            "1 3");
    }

    @Edge(promise = 21, says = "Returns how many versions have the page that a version has for a span.")
    static void usersFromOneToAll() {
        AbbeyLedgers x = Samples.full();
        Check.same("one", x.users(39, 0), 1);
        Check.same("all", x.users(0, 30), 40);
        AbbeyLedgers y = Samples.tree();
        y.graft(2, 3, 0, 7);
        Check.same("one more by a graft", y.users(3, 1), 2);
        Check.same("also if another one made it", y.users(5, 1), 2);
        y.undo();
        Check.same("one less without it", y.users(3, 1), 1);
    }

    @Edge(promise = 22, says = "Throws `IllegalArgumentException` if there is no such line, for either, or the last "
        + "one is ahead of the first one")
    static void wouldMakeNeedsLines() {
        needsLines("wouldMake", AbbeyLedgers::wouldMake);
    }

    @Edge(promise = 22, says = "Returns how many pages would be new if some lines were grafted.")
    static void wouldMakeFromNoPageOn() {
        AbbeyLedgers x = new AbbeyLedgers();
        Check.same("all lines", x.wouldMake(0, 15), 0);
        Check.same("a half", x.wouldMake(8, 15), 1);
        Check.same("the line 0", x.wouldMake(0, 0), 4);
        Check.same("the line 15", x.wouldMake(15, 15), 4);
        Check.same("all but the line 0", x.wouldMake(1, 15), 4);
        Check.same("all but the outermost lines", x.wouldMake(1, 14), 7);
        Check.same("the two in the middle", x.wouldMake(7, 8), 7);
    }

    @Edge(promise = 22, says = "Returns how many pages would be new")
    static void wouldMakeAsGraftMakesThem() {
        for (int first = 0; first < 16; first++) {
            AbbeyLedgers x = Samples.stairs();
            for (int last = first; last < 16; last++) {
                int version = x.graft(1, 16, first, last);
                Check.same("from " + first + " to " + last, x.wouldMake(first, last), x.versionOf(version, 4));
                x.undo();
            }
        }
    }

    // Promises 23 to 25

    @Edge(promise = 23, says = "Throws `IndexOutOfBoundsException` if there is no such version")
    static void alikeNeedsAVersion() {
        needsVersion("alike", (x, version) -> x.alike(version));
    }

    @Edge(promise = 23, says = "Returns how many other versions have the same amounts as a version, whatever their "
        + "pages.")
    static void alikeFromNoneToHalfOfAll() {
        AbbeyLedgers x = new AbbeyLedgers();
        Check.same("the only one", x.alike(0), 0);
        for (int version = 1; version < 40; version++) {
            x.write(0, 15, version % 2);
        }
        Check.same("0 and 19 others", x.alike(0), 19);
        Check.same("the last and 19 others", x.alike(39), 19);
        Check.same("0 among the others", x.alike(38), 19);
        AbbeyLedgers y = new AbbeyLedgers();
        y.write(0, 3, 5);
        y.write(1, 4, 5);
        Check.same("an equal sum is not enough", y.alike(1), 0);
        Check.same("the line 0 is another one", Samples.full().alike(39), 0);
        Check.same("the line 15 is another one", Samples.tree().alike(1), 0);
        y.graft(2, 1, 0, 15);
        y.write(3, 3, 5);
        Check.same("the same pages, and other ones", y.alike(1), 2);
    }

    @Edge(promise = 24, says = "Throws `NoSuchElementException` if there is no such place")
    static void richestNeedsAPlace() {
        for (int place : new int[] {LEAST, -1, 5, 6, 40, GREATEST}) {
            Check.noElement("richest at " + place, Samples::marked, x -> x.richest(place));
        }
        Check.noElement("richest at 40 of 40", Samples::full, x -> x.richest(40));
        Check.noElement("richest at 1 of 1", AbbeyLedgers::new, x -> x.richest(1));
    }

    @Edge(promise = 24, says = "the place in this order, from 0")
    static void richestAtTheFirstAndTheLastPlace() {
        AbbeyLedgers x = Samples.tree();
        Check.same("places", x.richest(0) + " " + x.richest(1) + " " + x.richest(2) + " " + x.richest(3) + " "
            + x.richest(4), "4 2 1 3 0");
        Check.same("the first of all", Samples.full().richest(0), 39);
        Check.same("the last of all", Samples.full().richest(39), 0);
        Check.same("the only one", new AbbeyLedgers().richest(0), 0);
    }

    @Edge(promise = 24, says = "the greatest first, of several the latest one")
    static void richestOfSeveralEqualSums() {
        AbbeyLedgers x = new AbbeyLedgers();
        x.write(0, 3, 5);
        x.write(1, 4, 5);
        x.write(2, 5, 6);
        x.write(1, 4, 0);
        x.write(1, 9, 5);
        Check.same("places", x.richest(0) + " " + x.richest(1) + " " + x.richest(2) + " " + x.richest(3) + " "
            + x.richest(4) + " " + x.richest(5), "3 5 2 1 4 0");
    }

    @Edge(promise = 25, says = "Throws `NoSuchElementException` if there is only the version 0")
    static void busiestNeedsAnotherVersion() {
        Check.noElement("busiest", AbbeyLedgers::new, x -> x.busiest());
        Check.noElement("busiest after undo", () -> {
            AbbeyLedgers x = new AbbeyLedgers();
            x.write(0, 0, 1);
            x.undo();
            return x;
        }, x -> x.busiest());
        AbbeyLedgers x = new AbbeyLedgers();
        x.write(0, 0, 1);
        Check.same("of one", x.busiest(), 1);
    }

    @Edge(promise = 25, says = "besides the version 0")
    static void busiestIsNotTheVersion0() {
        AbbeyLedgers x = new AbbeyLedgers();
        x.write(0, 3, 1);
        x.write(1, 3, 2);
        x.graft(2, 2, 3, 3);
        Check.same("one page of others", x.busiest(), 2);
    }

    @Edge(promise = 25, says = "of several the lowest")
    static void busiestIsTheVersion1OfSeveral() {
        AbbeyLedgers x = new AbbeyLedgers();
        x.write(0, 3, 1);
        x.write(0, 15, 2);
        x.write(0, 0, 3);
        Check.same("of two with four pages", x.busiest(), 1);
        x.write(0, 1, 4);
        Check.same("of several with fewer pages, too", x.busiest(), 1);
        x.graft(1, 2, 0, 15);
        Check.same("one page more", x.busiest(), 2);
    }

    @Edge(promise = 25, says = "that made the most pages which others have, too, each counted once, of several the "
        + "lowest")
    static void busiestOfSeveral() {
        AbbeyLedgers x = new AbbeyLedgers();
        x.write(0, 3, 1);
        x.write(0, 3, 2);
        Check.same("none has pages of others", x.busiest(), 1);
        x.write(0, 15, 3);
        Check.same("2 has pages of others", x.busiest(), 2);
        x.write(0, 15, 4);
        x.write(0, 15, 5);
        x.write(1, 0, 1);
        x.graft(2, 6, 0, 7);
        Check.same("as many pages with fewer users", x.busiest(), 2);
        x.write(2, 15, 6);
        x.write(2, 15, 7);
        x.write(2, 15, 8);
        Check.same("as many pages with more users", x.busiest(), 2);
        x.graft(3, 6, 0, 15);
        Check.same("one page more", x.busiest(), 6);
        x.undo();
        Check.same("and without it", x.busiest(), 2);
    }
}
