/** Promises 7 to 25: what is read of versions, pages and houses. */
final class ReadingTest {
    public static void main(String[] args) {
        ledger();
        amount();
        sums();
        most();
        reached();
        versionOf();
        maker();
        had();
        since();
        common();
        apart();
        shared();
        isOf();
        users();
        wouldMake();
        alike();
        richest();
        busiest();
        Check.end("ReadingTest");
    }

    private static void ledger() {
        AbbeyLedgers x = Samples.tree();
        Check.same("ledgers", Seen.ledgers(x), "4 3 0 0");
    }

    private static void amount() {
        AbbeyLedgers x = Samples.tree();
        Check.same("amount(2, 3)", x.amount(2, 3), 120);
        Check.same("amount(3, 3)", x.amount(3, 3), 5);
        Check.same("amount(3, 15)", x.amount(3, 15), 7);
        Check.same("amount(4, 15)", x.amount(4, 15), 0);
        Check.same("amount(0, 3)", x.amount(0, 3), 0);
    }

    private static void sums() {
        AbbeyLedgers x = Samples.tree();
        Check.same("sum", x.sum(2, 0, 15), 127);
        Check.same("sum", x.sum(2, 3, 14), 120);
        Check.same("sum", x.sum(2, 4, 14), 0);
        Check.same("sum", x.sum(2, 15, 15), 7);
        Check.same("sumAgain", x.sumAgain(2, 0, 15), 127);
        Check.same("sumAgain", x.sumAgain(2, 3, 14), 120);
        Check.same("sumAgain", x.sumAgain(2, 4, 14), 0);
        Check.same("sumAgain", x.sumAgain(2, 15, 15), 7);
        AbbeyLedgers rich = new AbbeyLedgers();
        for (int line = 0; line < 16; line++) {
            rich.write(2, line, 999);
        }
        Check.same("the greatest sum", rich.sum(16, 0, 15), 15984);
        Check.same("the greatest sum", rich.sumAgain(16, 0, 15), 15984);
    }

    private static void most() {
        AbbeyLedgers x = new AbbeyLedgers();
        x.write(0, 3, 50);
        x.write(0, 7, 50);
        x.write(0, 8, 60);
        Check.same("most of all", x.most(3, 0, 15), 8);
        Check.same("most of several", x.most(3, 0, 7), 3);
        Check.same("most from within", x.most(3, 4, 7), 7);
        Check.same("most ahead of it", x.most(3, 0, 2), 0);
        Check.same("most behind it", x.most(3, 9, 15), 9);
        Check.same("most of one", x.most(3, 5, 5), 5);
        Check.same("most at the end", x.most(3, 3, 8), 8);
        Check.same("most of an old version", x.most(1, 0, 15), 3);
        Check.same("most of nothing", x.most(0, 0, 15), 0);
    }

    private static void reached() {
        AbbeyLedgers x = new AbbeyLedgers();
        x.write(0, 2, 10);
        x.write(0, 9, 20);
        Check.same("reached", x.reached(2, Integer.MIN_VALUE), 0);
        Check.same("reached", x.reached(2, -1), 0);
        Check.same("reached", x.reached(2, 0), 0);
        Check.same("reached", x.reached(2, 1), 2);
        Check.same("reached", x.reached(2, 10), 2);
        Check.same("reached", x.reached(2, 11), 9);
        Check.same("reached", x.reached(2, 30), 9);
        x.write(0, 15, 1);
        Check.same("reached at the end", x.reached(3, 31), 15);
    }

    private static void versionOf() {
        AbbeyLedgers x = Samples.tree();
        Check.same("numbers of 0", Seen.numbers(x, 0), "-1 0 0 1 31 0 2");
        Check.same("numbers of 1", Seen.numbers(x, 1), "0 0 1 2 5 1 0");
        Check.same("numbers of 2", Seen.numbers(x, 2), "1 0 2 1 5 1 0");
        Check.same("numbers of 3", Seen.numbers(x, 3), "2 2 3 0 5 1 1");
        Check.same("numbers of 4", Seen.numbers(x, 4), "1 2 2 0 5 1 1");
        x.graft(2, 3, 0, 15);
        x.fork(3, 2);
        Check.same("numbers of 5", Seen.numbers(x, 5), "0 2 1 0 0 2 2");
        Check.same("numbers of 0 then", Seen.numbers(x, 0), "-1 0 0 2 31 0 0");
        Check.same("ancestors of the last", Samples.full().versionOf(39, 2), 39);
        Check.same("new lines of the last", Samples.full().versionOf(39, 5), 1);
    }

    private static void maker() {
        AbbeyLedgers x = Samples.tree();
        Check.same("makers", Seen.makers(x, 3),
            "3 3 2 3 0 0 2 0 3 0 0 0 0 0 2 0 0 0 3 0 0 0 0 0 0 0 0 0 0 0 2");
        Check.same("makers", Seen.makers(x, 4),
            "4 4 0 1 4 0 0 0 1 4 0 0 0 0 0 0 0 0 1 4 0 0 0 0 0 0 0 0 0 0 0");
    }

    private static void had() {
        AbbeyLedgers x = Samples.tree();
        Check.same("had(1, 0)", x.had(1, 0), 2);
        Check.same("had(1, 1)", x.had(1, 1), 2);
        Check.same("had(1, 2)", x.had(1, 2), 3);
        Check.same("had(1, 99)", x.had(1, 99), 3);
        Check.same("had(0, 1)", x.had(0, 1), 1);
        Check.same("had(0, 2)", x.had(0, 2), 4);
        Check.same("had(2, 50)", x.had(2, 50), 0);
        AbbeyLedgers late = new AbbeyLedgers();
        late.pass(5);
        late.write(0, 0, 1);
        late.write(0, 0, 2);
        Check.same("had ahead of all", late.had(0, 4), 0);
        Check.same("had, the latest of a year", late.had(0, 5), 2);
    }

    private static void since() {
        AbbeyLedgers x = new AbbeyLedgers();
        x.write(0, 0, 5);
        x.write(0, 1, 5);
        x.write(0, 0, 6);
        x.write(0, 0, 5);
        x.write(1, 7, 7);
        x.write(0, 2, 8);
        Check.same("since the value came again", x.since(6, 0), 4);
        Check.same("since(4, 0)", x.since(4, 0), 4);
        Check.same("since(3, 0)", x.since(3, 0), 3);
        Check.same("since(2, 0)", x.since(2, 0), 1);
        Check.same("since(6, 1)", x.since(6, 1), 2);
        Check.same("since ever", x.since(6, 15), 0);
        Check.same("since of another house", x.since(6, 7), 0);
        Check.same("since(5, 7)", x.since(5, 7), 5);
        Check.same("since(0, 0)", x.since(0, 0), 0);
        Check.same("since, by a graft of the same amount", x.graft(1, 6, 0, 7), 7);
        Check.same("since(7, 3)", x.since(7, 3), 0);
        Check.same("since(7, 7)", x.since(7, 7), 7);
        Check.same("since the start of all", Samples.full().since(39, 1), 0);
    }

    private static void common() {
        AbbeyLedgers x = Samples.tree();
        Check.same("common(3, 4)", x.common(3, 4), 1);
        Check.same("common(4, 3)", x.common(4, 3), 1);
        Check.same("common(2, 3)", x.common(2, 3), 2);
        Check.same("common(3, 2)", x.common(3, 2), 2);
        Check.same("common(4, 4)", x.common(4, 4), 4);
        Check.same("common(0, 4)", x.common(0, 4), 0);
        x.write(2, 0, 1);
        Check.same("common(5, 4)", x.common(5, 4), 0);
        Check.same("common, far", Samples.full().common(39, 0), 0);
    }

    private static void apart() {
        AbbeyLedgers x = Samples.tree();
        Check.same("apart(3, 4)", x.apart(3, 4), 3);
        Check.same("apart(4, 3)", x.apart(4, 3), 3);
        Check.same("apart(2, 1)", x.apart(2, 1), 1);
        Check.same("apart(2, 2)", x.apart(2, 2), 0);
        Check.same("apart(2, 0)", x.apart(2, 0), 2);
        x.write(1, 3, 120);
        Check.same("apart in no amount on one line", x.apart(5, 2), 0);
        Check.same("apart on the line 0", Samples.full().apart(39, 0), 1);
        Check.same("apart on the line 15", x.apart(1, 2), 1);
    }

    private static void shared() {
        AbbeyLedgers x = Samples.tree();
        Check.same("shared(3, 4)", x.shared(3, 4), 19);
        Check.same("shared(4, 3)", x.shared(4, 3), 19);
        Check.same("shared(3, 3)", x.shared(3, 3), 31);
        Check.same("shared(1, 0)", x.shared(1, 0), 26);
        x.graft(2, 3, 0, 7);
        Check.same("shared(5, 3)", x.shared(5, 3), 26);
        x.graft(3, 3, 0, 15);
        Check.same("shared by a whole graft", x.shared(6, 3), 31);
    }

    private static void isOf() {
        AbbeyLedgers x = Samples.tree();
        Check.that("1 of 4", x.isOf(1, 4));
        Check.that("4 not of 1", !x.isOf(4, 1));
        Check.that("2 not of 4", !x.isOf(2, 4));
        Check.that("0 of 3", x.isOf(0, 3));
        Check.that("3 of 3", x.isOf(3, 3));
        Check.that("2 of 3", x.isOf(2, 3));
        Check.that("3 not of 4", !x.isOf(3, 4));
    }

    private static void users() {
        AbbeyLedgers x = Samples.tree();
        Check.same("users(0, 0)", x.users(0, 0), 1);
        Check.same("users(1, 3)", x.users(1, 3), 3);
        Check.same("users(2, 3)", x.users(2, 3), 3);
        Check.same("users(3, 3)", x.users(3, 3), 1);
        Check.same("users(0, 29)", x.users(0, 29), 5);
        Check.same("users(4, 30)", x.users(4, 30), 3);
        x.graft(2, 3, 0, 7);
        Check.same("users(5, 1)", x.users(5, 1), 2);
        Check.same("users(3, 1)", x.users(3, 1), 2);
    }

    private static void wouldMake() {
        AbbeyLedgers x = new AbbeyLedgers();
        Check.same("wouldMake(3, 3)", x.wouldMake(3, 3), 4);
        Check.same("wouldMake(0, 0)", x.wouldMake(0, 0), 4);
        Check.same("wouldMake(15, 15)", x.wouldMake(15, 15), 4);
        Check.same("wouldMake(1, 14)", x.wouldMake(1, 14), 7);
        Check.same("wouldMake(0, 15)", x.wouldMake(0, 15), 0);
        Check.same("wouldMake(0, 7)", x.wouldMake(0, 7), 1);
        Check.same("wouldMake(8, 15)", x.wouldMake(8, 15), 1);
        Check.same("wouldMake(7, 8)", x.wouldMake(7, 8), 7);
        Check.same("wouldMake(4, 5)", x.wouldMake(4, 5), 3);
        Check.same("wouldMake(5, 6)", x.wouldMake(5, 6), 5);
        int larger = 0;
        for (int lines = 16; lines >= 1; lines /= 2) {
            for (int first = 0; first < 16; first += lines) {
                Check.same("wouldMake of a span", x.wouldMake(first, first + lines - 1), larger);
            }
            larger++;
        }
    }

    private static void alike() {
        AbbeyLedgers x = Samples.tree();
        Check.same("alike(0)", x.alike(0), 0);
        x.write(0, 4, 0);
        Check.same("alike(5)", x.alike(5), 1);
        Check.same("alike(1)", x.alike(1), 1);
        x.write(2, 3, 120);
        Check.same("alike(6)", x.alike(6), 2);
        Check.same("alike(2)", x.alike(2), 0);
        x.graft(3, 3, 0, 15);
        Check.same("alike(3)", x.alike(3), 1);
        Check.same("alike in no more than the sum", x.write(2, 3, 0), 8);
        Check.same("alike(0) then", x.alike(0), 1);
        Check.same("alike(8)", x.alike(8), 1);
        x.write(2, 0, 120);
        Check.same("alike(9)", x.alike(9), 0);
    }

    private static void richest() {
        AbbeyLedgers x = Samples.tree();
        Check.same("richest(0)", x.richest(0), 4);
        Check.same("richest(1)", x.richest(1), 2);
        Check.same("richest(2)", x.richest(2), 1);
        Check.same("richest(3)", x.richest(3), 3);
        Check.same("richest(4)", x.richest(4), 0);
        x.write(2, 8, 120);
        Check.same("of several the latest", x.richest(2), 5);
        Check.same("of several the latest", x.richest(3), 1);
        Check.same("richest(5)", x.richest(5), 0);
    }

    private static void busiest() {
        AbbeyLedgers x = new AbbeyLedgers();
        x.write(0, 3, 1);
        Check.same("the only one", x.busiest(), 1);
        x.write(0, 3, 2);
        Check.same("none has pages of others: the lowest", x.busiest(), 1);
        x.write(0, 15, 3);
        Check.same("2 has pages of others", x.busiest(), 2);
        x.write(0, 15, 0);
        x.write(0, 14, 4);
        Check.same("of several the lowest", x.busiest(), 2);
        x.graft(1, 5, 8, 15);
        Check.same("5 has as many", x.busiest(), 2);
        x.graft(2, 5, 0, 15);
        Check.same("5 has all", x.busiest(), 5);
        for (int i = 0; i < 4; i++) {
            x.write(3, 0, i + 1);
            x.write(3, 15, i + 1);
        }
        Check.same("a page of many users counts once", x.busiest(), 5);
        AbbeyLedgers y = new AbbeyLedgers();
        y.write(0, 3, 1);
        y.write(1, 3, 2);
        y.graft(2, 2, 3, 3);
        Check.same("a single page", y.busiest(), 2);
    }
}
