/** Promises 26 to 29: the text buffer, commands, the fault position and the reason. */
final class CommandsTest {
    public static void main(String[] args) {
        commandsOfEachKind();
        leadingZeros();
        commandsOfAllHouses();
        refused();
        faults();
        Check.end("CommandsTest");
    }

    private static void commandsOfEachKind() {
        AbbeyLedgers x = new AbbeyLedgers();
        Check.same("commands", Samples.run(x, "w0/3=120;w0/4=001;f1<0;b0*1;y5;g2/2:4-7"), 6);
        Check.same("ledgers", Seen.ledgers(x), "1 2 3 0");
        Check.same("year", x.account(1), 5);
        Check.same("amounts", Check.lineOf(x, 2), "3=120,4=1");
        Check.same("amounts", Check.lineOf(x, 3), "4=1");
        Check.same("year of 3", x.versionOf(3, 1), 5);
        Check.same("year of 2", x.versionOf(2, 1), 0);
        Check.same("writings", x.account(5), 2);
        Check.same("graftings", x.account(6), 1);
        Check.same("one call to undo", x.account(7), 1);
        Check.same("the buffer is empty", x.account(8), 0);
        Check.same("no fault", x.faultPosition(), -1);
        Check.same("undo", x.undo(), 0);
        Check.same("all is undone", Seen.ledgers(x) + " " + x.account(0) + " " + x.account(1), "0 0 0 0 1 0");
    }

    private static void leadingZeros() {
        AbbeyLedgers x = new AbbeyLedgers();
        Check.same("commands", Samples.run(x, "w0/03=007;g1/01:03-03;f2<0;b2*01;y09"), 5);
        Check.same("ledgers", Seen.ledgers(x), "1 2 0 0");
        Check.same("amount", x.amount(2, 3), 7);
        Check.same("year", x.account(1), 9);
    }

    private static void commandsOfAllHouses() {
        AbbeyLedgers x = new AbbeyLedgers();
        Check.same("commands", Samples.run(x, "w0/10=10;w1/11=110;w2/12=12;w3/13=130;g0/3:12-12"), 5);
        Check.same("ledgers", Seen.ledgers(x), "5 2 3 4");
        Check.same("amounts", Check.lineOf(x, 5), "10=10,12=12");
        Check.same("commands", Samples.run(x, "f2<1;b3*1;w2/9=9;y10;y10"), 5);
        Check.same("ledgers", Seen.ledgers(x), "5 2 6 0");
        Check.same("amounts", Check.lineOf(x, 6), "9=9,11=110");
        Check.same("year", x.account(1), 20);
        Check.same("what can be undone", x.undo(), 1);
        Check.same("ledgers", Seen.ledgers(x), "5 2 3 4");
    }

    private static void refused() {
        Check.textRefused("w0/3=1;w1/4=1;y9;f2<0;b0*1;g3/9:0-1", 4, 4, 5, () -> {
            AbbeyLedgers x = new AbbeyLedgers();
            x.write(3, 1, 1);
            x.undo();
            x.write(3, 1, 2);
            return x;
        });
        Check.textRefused("f2<1;b2*3;b2*1", 7, 0, 2, Samples::markedWithoutText);
    }

    private static void faults() {
        Check.textFails("w0/3=1;w0/x", 10, Samples::markedWithoutText);
        Check.textFails("y11;y1;w0/3=1;f0", 16, Samples::markedWithoutText);
        Check.textFails("g2/12:12-123", 11, Samples::markedWithoutText);
        Check.textFails("b0**", 3, Samples::markedWithoutText);
    }
}
