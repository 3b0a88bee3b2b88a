import java.util.Random;

/** Long runs of calls, the same ones each time, on the class and on the model. */
final class ModelTest {
    private static final int RUNS = 6000;

    // An object is used for so many calls.
    private static final int CALLS = 512;

    // One character more than there is room for, commands, faultPosition, and three times reason.
    private static final int LONGEST_TEXT = 61;
    private static final int LONGEST_STEP = LONGEST_TEXT + 5;
    private static final int[] FAR = {Integer.MIN_VALUE, -2, -1, 40, 41, 1000, Integer.MAX_VALUE};
    private static final String SIGNS = "wgfby/=:-<*;0123456789";

    private final Random random;
    private final AbbeyLedgers x = new AbbeyLedgers();
    private final Model model = new Model();
    private final int mostAmount;
    private final int changes;
    private final int undoings;
    private int versions = 1;
    private int calls = 0;

    private interface Call {
        double answer();
    }

    private ModelTest(int seed) {
        random = new Random(seed);
        mostAmount = random.nextBoolean() ? 2 : 999;
        changes = 10 + random.nextInt(60);
        undoings = 1 + random.nextInt(12);
    }

    public static void main(String[] args) {
        for (int seed = 0; seed < RUNS; seed++) {
            ModelTest test = new ModelTest(seed);
            boolean goesOn = true;
            while (goesOn && test.calls <= CALLS - LONGEST_STEP) {
                goesOn = test.step("run " + seed + ", call " + test.calls);
            }
        }
        Check.end("ModelTest");
    }

    private boolean step(String where) {
        int dice = random.nextInt(100);
        boolean holds;
        if (dice < changes) {
            holds = change(where);
        } else if (dice < changes + undoings) {
            holds = past(where);
        } else if (random.nextInt(20) == 0) {
            holds = text(where);
        } else {
            holds = read(where);
        }
        versions = model.account(0);
        return holds;
    }

    private boolean same(String what, Call got, Call due) {
        calls++;
        String one = told(got);
        String other = told(due);
        Check.same(what, one, other);
        return one.equals(other);
    }

    private static String told(Call call) {
        try {
            return String.valueOf(call.answer());
        } catch (RuntimeException e) {
            return e.getClass().getSimpleName();
        }
    }

    private int upTo(int most) {
        return random.nextInt(40) == 0 ? FAR[random.nextInt(FAR.length)] : random.nextInt(most + 1);
    }

    private int house() {
        return upTo(random.nextInt(30) == 0 ? 4 : 3);
    }

    private int line() {
        return upTo(random.nextInt(30) == 0 ? 16 : 15);
    }

    private int version() {
        return upTo(random.nextInt(30) == 0 ? versions : versions - 1);
    }

    private int amount() {
        return upTo(random.nextInt(30) == 0 ? 1001 : mostAmount);
    }

    private boolean change(String where) {
        int[] n = {house(), line(), amount(), 0};
        String name;
        int kind = random.nextInt(10);
        if (kind < 4) {
            name = "write";
        } else if (kind < 7) {
            int line = line();
            int end = random.nextInt(8) == 0 ? line() : Math.max(line, Math.min(15, line + random.nextInt(16)));
            n = new int[] {house(), version(), line, end};
            name = "graft";
        } else if (kind == 7) {
            n[1] = house();
            name = "fork";
        } else if (kind == 8) {
            n[1] = upTo(random.nextInt(4) == 0 ? 39 : 3);
            name = "back";
        } else {
            n[0] = upTo(random.nextInt(4) == 0 ? 100 : 6);
            name = "pass";
        }
        int[] numbers = n;
        String what = where + ": " + name + " " + n[0] + " " + n[1] + " " + n[2] + " " + n[3];
        return same(what, () -> carriedOut(name, numbers), () -> model.change(name, numbers)) && reasons(where);
    }

    private double carriedOut(String name, int[] n) {
        switch (name) {
            case "write": return x.write(n[0], n[1], n[2]);
            case "graft": return x.graft(n[0], n[1], n[2], n[3]);
            case "fork": return x.fork(n[0], n[1]);
            case "back": return x.back(n[0], n[1]);
            default: return x.pass(n[0]);
        }
    }

    private boolean reasons(String where) {
        return same(where + ": reason(0)", () -> x.reason(0), () -> model.reason(0))
            && same(where + ": reason(1)", () -> x.reason(1), () -> model.reason(1))
            && same(where + ": reason(2)", () -> x.reason(2), () -> model.reason(2));
    }

    private boolean past(String where) {
        int kind = random.nextInt(8);
        if (kind == 0) {
            return same(where + ": save()", x::save, model::save);
        }
        if (kind == 1) {
            return same(where + ": restore()", x::restore, model::restore);
        }
        return same(where + ": undo()", x::undo, model::undo);
    }

    private boolean text(String where) {
        StringBuilder text = new StringBuilder(command());
        while (random.nextInt(3) > 0) {
            text.append(';').append(command());
        }
        if (random.nextInt(3) == 0) {
            spoil(text);
        }
        for (int i = 0; i < Math.min(text.length(), LONGEST_TEXT); i++) {
            char sign = text.charAt(i);
            if (!same(where + ": append " + (int) sign, () -> x.append(sign), () -> model.append(sign))) {
                return false;
            }
        }
        return same(where + ": commands() of " + text, x::commands, model::commands)
            && same(where + ": faultPosition()", x::faultPosition, model::faultPosition) && reasons(where);
    }

    private void spoil(StringBuilder text) {
        int at = random.nextInt(text.length());
        boolean isAny = random.nextInt(8) == 0;
        char sign = isAny ? (char) random.nextInt(65536) : SIGNS.charAt(random.nextInt(SIGNS.length()));
        switch (random.nextInt(4)) {
            case 0:
                text.setCharAt(at, sign);
                break;
            case 1:
                text.insert(at, sign);
                break;
            case 2:
                text.deleteCharAt(at);
                break;
            default:
                text.setLength(at);
        }
    }

    private String digits(int number, int most) {
        String digits = String.valueOf(Math.floorMod(number, most == 3 ? 1000 : 100));
        return digits.length() < most && random.nextInt(4) == 0 ? "0" + digits : digits;
    }

    private String command() {
        String house = String.valueOf(Math.floorMod(house(), 10));
        switch (random.nextInt(6)) {
            case 0:
                return "g" + house + "/" + digits(version(), 2) + ":" + digits(random.nextInt(9), 2) + "-"
                    + digits(line(), 2);
            case 1:
                return "f" + house + "<" + Math.floorMod(house(), 10);
            case 2:
                return "b" + house + "*" + digits(upTo(3), 2);
            case 3:
                return "y" + digits(upTo(5), 2);
            default:
                return "w" + house + "/" + digits(line(), 2) + "=" + digits(amount(), 3);
        }
    }

    private boolean read(String where) {
        switch (random.nextInt(6)) {
            case 0:
                return readVersion(where, version());
            case 1:
                return readTwo(where, version(), version());
            case 2:
                return readLines(where, version());
            case 3:
                return readSpan(where, version(), upTo(random.nextInt(30) == 0 ? 31 : 30));
            case 4:
                return readNumber(where, upTo(9));
            default:
                return readWritten(where, version(), upTo(20));
        }
    }

    private boolean readVersion(String where, int v) {
        String what = where + ", version " + v;
        int line = line();
        int total = upTo(random.nextBoolean() ? 20 : 16000);
        switch (random.nextInt(5)) {
            case 0:
                return same(what + ": amount " + line, () -> x.amount(v, line), () -> model.amount(v, line));
            case 1:
                return same(what + ": since " + line, () -> x.since(v, line), () -> model.since(v, line));
            case 2:
                return same(what + ": reached " + total, () -> x.reached(v, total), () -> model.reached(v, total));
            case 3:
                return same(what + ": alike", () -> x.alike(v), () -> model.alike(v));
            default:
                return same(what + ": mean", () -> x.mean(v), () -> model.mean(v));
        }
    }

    private boolean readTwo(String where, int v, int w) {
        String what = where + ", versions " + v + " and " + w;
        switch (random.nextInt(4)) {
            case 0:
                return same(what + ": common", () -> x.common(v, w), () -> model.common(v, w));
            case 1:
                return same(what + ": apart", () -> x.apart(v, w), () -> model.apart(v, w));
            case 2:
                return same(what + ": shared", () -> x.shared(v, w), () -> model.shared(v, w));
            default:
                return same(what + ": isOf", () -> x.isOf(v, w) ? 1 : 0, () -> model.isOf(v, w) ? 1 : 0);
        }
    }

    private boolean readLines(String where, int v) {
        int first = line();
        int last = random.nextInt(10) == 0 ? line() : Math.max(first, Math.min(15, first + random.nextInt(16)));
        String what = where + ", version " + v + ", lines " + first + " to " + last;
        switch (random.nextInt(4)) {
            case 0:
                return same(what + ": sum", () -> x.sum(v, first, last), () -> model.sum(v, first, last));
            case 1:
                return same(what + ": sumAgain", () -> x.sumAgain(v, first, last), () -> model.sum(v, first, last));
            case 2:
                return same(what + ": most", () -> x.most(v, first, last), () -> model.most(v, first, last));
            default:
                return same(what + ": wouldMake", () -> x.wouldMake(first, last), () -> model.wouldMake(first, last));
        }
    }

    private boolean readSpan(String where, int v, int span) {
        String what = where + ", version " + v + ", span " + span;
        return random.nextBoolean()
            ? same(what + ": maker", () -> x.maker(v, span), () -> model.maker(v, span))
            : same(what + ": users", () -> x.users(v, span), () -> model.users(v, span));
    }

    private boolean readNumber(String where, int number) {
        String what = where + ", number " + number;
        int v = version();
        int house = house();
        int year = upTo(random.nextInt(20) == 0 ? 100 : 40);
        switch (random.nextInt(6)) {
            case 0:
                return same(what + ": versionOf " + v, () -> x.versionOf(v, number), () -> model.versionOf(v, number));
            case 1:
                return same(what + ": account", () -> x.account(number), () -> model.account(number));
            case 2:
                return same(what + ": reason", () -> x.reason(number), () -> model.reason(number));
            case 3:
                return same(where + ": ledger " + house, () -> x.ledger(house), () -> model.ledger(house));
            case 4:
                return same(where + ": had " + house + " " + year, () -> x.had(house, year),
                    () -> model.had(house, year));
            default:
                return same(where + ": faultPosition", x::faultPosition, model::faultPosition);
        }
    }

    private boolean readWritten(String where, int v, int number) {
        String what = where + ", version " + v;
        switch (random.nextInt(6)) {
            case 0:
                return same(what + ": richest", () -> x.richest(v), () -> model.richest(v));
            case 1:
                return same(what + ": busiest", x::busiest, model::busiest);
            case 2:
                return same(what + ": spared", x::spared, model::spared);
            case 3:
                return same(what + ": line", () -> x.line(v), () -> model.line(v));
            case 4:
                return same(what + ": lineage", () -> x.lineage(v), () -> model.lineage(v));
            default:
                return same(what + ": character " + number, () -> x.character(number), () -> model.character(number));
        }
    }
}
