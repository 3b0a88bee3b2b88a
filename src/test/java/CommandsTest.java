/** Promises 26 to 29: the text buffer, commands, the fault position and the reason. */
final class CommandsTest {
    public static void main(String[] args) {
        append();
        commandsOfEachKind();
        commandsAsTheMethods();
        longestNumbers();
        faultsOfLetters();
        faultsOfWriting();
        faultsOfGrafting();
        faultsOfShortCommands();
        faultsBetween();
        faultPosition();
        refusedOnes();
        refusedAllOrNone();
        reason();
        Check.end("CommandsTest");
    }

    private static void append() {
        AbbeyLedgers x = new AbbeyLedgers();
        for (int i = 1; i <= 60; i++) {
            Check.same("append", x.append((char) (i * 1091)), i);
        }
        Check.noState("append to 60", x, () -> x.append('y'));
        Check.same("characters", x.account(8), 60);
    }

    private static void commandsOfEachKind() {
        AbbeyLedgers x = new AbbeyLedgers();
        Check.same("commands", Check.run(x, "w0/3=120;w0/4=001;f1<0;b0*1;y5;g2/2:4-7"), 6);
        Check.same("ledgers", Check.ledgers(x), "1 2 3 0");
        Check.same("year", x.account(1), 5);
        Check.same("amounts", Check.lineOf(x, 2), "3=120,4=1");
        Check.same("amounts", Check.lineOf(x, 3), "4=1");
        Check.same("year of 3", x.versionOf(3, 1), 5);
        Check.same("year of 2", x.versionOf(2, 1), 0);
        Check.same("writings", x.account(5), 2);
        Check.same("graftings", x.account(6), 1);
        Check.same("one call to undo", x.account(7), 1);
        Check.same("the buffer is empty", x.account(8), 0);
        Check.same("no fault", x.faultPosition(), -1);
        Check.same("undo", x.undo(), 0);
        Check.same("all is undone", Check.ledgers(x) + " " + x.account(0) + " " + x.account(1), "0 0 0 0 1 0");
    }

    private static void commandsAsTheMethods() {
        AbbeyLedgers x = new AbbeyLedgers();
        Check.run(x, "w3/15=999;g1/1:0-15;f2<3;w2/0=1;b2*1;y99");
        AbbeyLedgers y = new AbbeyLedgers();
        y.write(3, 15, 999);
        y.graft(1, 1, 0, 15);
        y.fork(2, 3);
        y.write(2, 0, 1);
        y.back(2, 1);
        y.pass(99);
        Check.same("six calls to undo", y.account(7), 6);
        for (int i = 0; i < 6; i++) {
            y.undo();
        }
        Check.run(y, "w3/15=999;g1/1:0-15;f2<3;w2/0=1;b2*1;y99");
        Check.same("the same", Check.seen(y), Check.seen(x));
        Check.same("year", x.account(1), 99);
        Check.same("ledgers", Check.ledgers(x), "0 2 1 1");
    }

    private static void longestNumbers() {
        AbbeyLedgers x = new AbbeyLedgers();
        Check.same("leading zeros", Check.run(x, "w0/03=007;g1/01:03-03;f2<0;b2*01;y09"), 5);
        Check.same("ledgers", Check.ledgers(x), "1 2 0 0");
        Check.same("amount", x.amount(2, 3), 7);
        Check.same("year", x.account(1), 9);
        Check.same("60 characters", Check.run(x, "y1;y1;y1;y1;y1;y1;y1;y1;y1;y1;y1;y1;y1;y1;y1;y1;y1;y1;y1;y01"), 20);
        Check.same("year", x.account(1), 29);
    }

    private static void faultsOfLetters() {
        AbbeyLedgers x = new AbbeyLedgers();
        Check.textFails(x, "", 0);
        Check.textFails(x, " ", 0);
        Check.textFails(x, ";", 0);
        Check.textFails(x, "W0/3=1", 0);
        Check.textFails(x, "0", 0);
        Check.textFails(x, "x", 0);
        Check.textFails(x, " y1", 0);
        Check.textFails(x, "" + (char) 0, 0);
        Check.textFails(x, "" + (char) 0xff59, 0);
        Check.textFails(x, "y" + (char) 0x661, 1);
        Check.textFails(x, "y1" + (char) 0, 2);
        Check.textFails(x, "yy", 1);
    }

    private static void faultsOfWriting() {
        AbbeyLedgers x = new AbbeyLedgers();
        Check.textFails(x, "w", 1);
        Check.textFails(x, "w/", 1);
        Check.textFails(x, "w0", 2);
        Check.textFails(x, "w00", 2);
        Check.textFails(x, "w0:", 2);
        Check.textFails(x, "w0/", 3);
        Check.textFails(x, "w0/x", 3);
        Check.textFails(x, "w0/=", 3);
        Check.textFails(x, "w0/3", 4);
        Check.textFails(x, "w0/15", 5);
        Check.textFails(x, "w0/155", 5);
        Check.textFails(x, "w0/15=", 6);
        Check.textFails(x, "w0/15=;", 6);
        Check.textFails(x, "w0/15=1234", 9);
        Check.textFails(x, "w0/15=-1", 6);
        Check.textFails(x, "w0/15=1 ", 7);
        Check.textFails(x, "w0/15=1=", 7);
    }

    private static void faultsOfGrafting() {
        AbbeyLedgers x = new AbbeyLedgers();
        Check.textFails(x, "g", 1);
        Check.textFails(x, "gg", 1);
        Check.textFails(x, "g2", 2);
        Check.textFails(x, "g22", 2);
        Check.textFails(x, "g2/", 3);
        Check.textFails(x, "g2/:", 3);
        Check.textFails(x, "g2/1", 4);
        Check.textFails(x, "g2/1=", 4);
        Check.textFails(x, "g2/123", 5);
        Check.textFails(x, "g2/12:", 6);
        Check.textFails(x, "g2/12:-", 6);
        Check.textFails(x, "g2/12:1", 7);
        Check.textFails(x, "g2/12:123", 8);
        Check.textFails(x, "g2/12:12-", 9);
        Check.textFails(x, "g2/12:12--", 9);
        Check.textFails(x, "g2/12:12-123", 11);
        Check.textFails(x, "g2/1:2-3/", 8);
    }

    private static void faultsOfShortCommands() {
        AbbeyLedgers x = new AbbeyLedgers();
        Check.textFails(x, "f", 1);
        Check.textFails(x, "f0", 2);
        Check.textFails(x, "f0>", 2);
        Check.textFails(x, "f0<", 3);
        Check.textFails(x, "f0<f", 3);
        Check.textFails(x, "f0<11", 4);
        Check.textFails(x, "b", 1);
        Check.textFails(x, "b0", 2);
        Check.textFails(x, "b00*1", 2);
        Check.textFails(x, "b0*", 3);
        Check.textFails(x, "b0**", 3);
        Check.textFails(x, "b0*111", 5);
        Check.textFails(x, "y", 1);
        Check.textFails(x, "y-1", 1);
        Check.textFails(x, "y123", 3);
    }

    private static void faultsBetween() {
        AbbeyLedgers x = new AbbeyLedgers();
        Check.textFails(x, "y1;", 3);
        Check.textFails(x, "y1;;", 3);
        Check.textFails(x, "y1,y1", 2);
        Check.textFails(x, "y1y1", 2);
        Check.textFails(x, "y11;y1;w0/3=1;f0", 16);
        Check.textFails(x, "w0/3=1;w0/x", 10);
        Check.textFails(x, "w0/3=1;;w0/3=1", 7);
        Check.textFails(x, "y1;y1;y1;y1;y1;y1;y1;y1;y1;y1;y1;y1;y1;y1;y1;y1;y1;y1;y1;y1;", 60);
        Check.same("a fault is no refusal: nothing is carried out, no reason", x.account(0), 1);
        Check.noElement("reason", x, () -> x.reason(0));
    }

    private static void faultPosition() {
        AbbeyLedgers x = new AbbeyLedgers();
        Check.same("at first", x.faultPosition(), -1);
        Check.textFails(x, "y1;", 3);
        Check.fill(x, "y1");
        x.write(0, 0, 1);
        x.save();
        x.restore();
        Check.same("kept till the next call", x.faultPosition(), 3);
        x.commands();
        Check.same("none", x.faultPosition(), -1);
        Check.textFails(x, "", 0);
        Check.textRefused(x, "y0", 1, 0, 0);
    }

    private static void refusedOnes() {
        AbbeyLedgers x = new AbbeyLedgers();
        x.write(0, 0, 1);
        Check.textRefused(x, "w4/0=1", 1, 0, 0);
        Check.textRefused(x, "w0/16=1", 1, 0, 0);
        Check.textRefused(x, "w0/0=1", 3, 1, 0);
        Check.textRefused(x, "g9/0:0-0", 1, 0, 0);
        Check.textRefused(x, "g0/0:16-0", 1, 0, 0);
        Check.textRefused(x, "g0/2:9-0", 4, 2, 0);
        Check.textRefused(x, "g0/0:9-0", 5, 9, 0);
        Check.textRefused(x, "g0/0:1-15", 3, 1, 0);
        Check.textRefused(x, "f0<4", 1, 0, 0);
        Check.textRefused(x, "f3<3", 6, 3, 0);
        Check.textRefused(x, "f3<2", 3, 0, 0);
        Check.textRefused(x, "b0*0", 1, 0, 0);
        Check.textRefused(x, "b0*40", 1, 0, 0);
        Check.textRefused(x, "b0*39", 7, 1, 0);
        Check.textRefused(x, "y00", 1, 0, 0);
        Check.textRefused(x, "y60;y60", 8, 21, 1);
        AbbeyLedgers full = Check.full();
        Check.textRefused(full, "y1;b0*1;w0/0=1", 2, 0, 2);
        Check.textRefused(full, "g0/1:0-0", 2, 0, 0);
    }

    private static void refusedAllOrNone() {
        AbbeyLedgers x = new AbbeyLedgers();
        Check.same("write", x.write(3, 1, 1), 1);
        Check.textRefused(x, "w0/3=1;w0/3=1", 3, 2, 1);
        Check.textRefused(x, "w0/3=1;w1/4=1;y9;f2<0;b0*1;g3/9:0-1", 4, 4, 5);
        Check.textRefused(x, "f2<3;b2*1;b2*1", 7, 0, 2);
        Check.textRefused(x, "w3/1=2;g0/2:0-3;b3*2;f3<1", 3, 0, 3);
        Check.same("a version comes after all", x.write(0, 3, 1), 2);
        Check.same("the amounts are the due ones", Check.lineOf(x, 2), "3=1");
        AbbeyLedgers late = new AbbeyLedgers();
        for (int i = 0; i < 9; i++) {
            late.pass(1);
        }
        Check.textRefused(late, "y50;y50", 8, 10, 1);
        Check.same("undo is as before", late.undo(), 7);
        Check.same("year", late.account(1), 8);
    }

    private static void reason() {
        AbbeyLedgers x = new AbbeyLedgers();
        for (int what : new int[] {Integer.MIN_VALUE, -1, 3, Integer.MAX_VALUE}) {
            Check.noArgument("reason", x, () -> x.reason(what));
        }
        for (int what = 0; what <= 2; what++) {
            int kept = what;
            Check.noElement("reason", x, () -> x.reason(kept));
        }
        x.write(0, 0, 1);
        Check.textRefused(x, "w1/0=1;f1<0;f2<2", 6, 2, 2);
        x.write(0, 0, 2);
        x.save();
        x.undo();
        x.restore();
        Check.textFails(x, "z", 0);
        Check.run(x, "y1;y1");
        Check.same("the reason stays", x.reason(0) + " " + x.reason(1) + " " + x.reason(2), "6 2 2");
        Check.refused("another call", x, 7, 2, () -> x.back(0, 3));
        Check.noArgument("reason(3)", x, () -> x.reason(3));
    }
}
