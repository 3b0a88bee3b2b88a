import java.util.ArrayDeque;
import java.util.ArrayList;
import java.util.Arrays;
import java.util.Deque;
import java.util.HashSet;
import java.util.List;
import java.util.NoSuchElementException;
import java.util.Set;
import java.util.regex.Matcher;
import java.util.regex.Pattern;

/** A second writing of the document: pages are the nodes of trees that versions share, states are never changed. */
final class Model {
    private static final Pattern TEXT;

    static {
        String command = "(?:w\\d/\\d{1,2}=\\d{1,3}|g\\d/\\d{1,2}:\\d{1,2}-\\d{1,2}|f\\d<\\d|b\\d\\*\\d{1,2}"
            + "|y\\d{1,2})";
        TEXT = Pattern.compile(command + "(?:;" + command + ")*");
    }

    /** A page; its span is told by where it stands in the tree. */
    private record Page(Page lower, Page higher, int maker, int sum) {
    }

    private record Version(int parent, int year, Page pages) {
    }

    private record State(List<Version> versions, List<Integer> ledgers, int year, int writings, int graftings) {
    }

    private static final class Refused extends RuntimeException {
        private static final long serialVersionUID = 1;

        final int why;
        final int detail;

        Refused(int why, int detail) {
            this.why = why;
            this.detail = detail;
        }
    }

    private State state;
    private State saved = null;
    private final Deque<State> past = new ArrayDeque<>();
    private String text = "";
    private String line = "";
    private int fault = -1;
    private int[] reason = null;

    Model() {
        state = new State(List.of(new Version(-1, 0, blank(16))), List.of(0, 0, 0, 0), 0, 0, 0);
    }

    private static Page blank(int lines) {
        Page half = lines == 1 ? null : blank(lines / 2);
        return new Page(half, half, 0, 0);
    }

    // Changes: each makes a new state, or refuses.

    private static State write(State s, int house, int line, int amount) {
        need(house >= 0 && house <= 3 && line >= 0 && line <= 15 && amount >= 0 && amount <= 999, 1, 0);
        int ledger = s.ledgers.get(house);
        need(amountOf(s, ledger, line) != amount, 3, ledger);
        need(s.versions.size() < 40, 2, 0);
        Page pages = written(s.versions.get(ledger).pages, 16, line, amount, s.versions.size());
        State next = withVersion(s, house, pages);
        return new State(next.versions, next.ledgers, s.year, s.writings + 1, s.graftings);
    }

    private static State graft(State s, int house, int version, int first, int last) {
        need(house >= 0 && house <= 3 && Math.min(first, last) >= 0 && Math.max(first, last) <= 15, 1, 0);
        need(version >= 0 && version < s.versions.size(), 4, s.versions.size());
        need(first <= last, 5, first - last);
        int ledger = s.ledgers.get(house);
        int[] own = amountsOf(s, ledger);
        int[] others = amountsOf(s, version);
        need(!Arrays.equals(own, first, last + 1, others, first, last + 1), 3, ledger);
        need(s.versions.size() < 40, 2, 0);
        Page pages = grafted(s.versions.get(ledger).pages, s.versions.get(version).pages, 0, 15, first, last,
            s.versions.size());
        State next = withVersion(s, house, pages);
        return new State(next.versions, next.ledgers, s.year, s.writings, s.graftings + 1);
    }

    private static State fork(State s, int house, int from) {
        need(house >= 0 && house <= 3 && from >= 0 && from <= 3, 1, 0);
        need(house != from, 6, house);
        need(!s.ledgers.get(house).equals(s.ledgers.get(from)), 3, s.ledgers.get(house));
        return withLedger(s, house, s.ledgers.get(from));
    }

    private static State back(State s, int house, int versions) {
        need(house >= 0 && house <= 3 && versions >= 1 && versions <= 39, 1, 0);
        List<Integer> of = lineOf(s, s.ledgers.get(house));
        need(versions < of.size(), 7, of.size() - 1);
        return withLedger(s, house, of.get(versions));
    }

    private static State pass(State s, int years) {
        need(years >= 1 && years <= 99, 1, 0);
        need(s.year + years <= 99, 8, s.year + years - 99);
        return new State(s.versions, s.ledgers, s.year + years, s.writings, s.graftings);
    }

    private static void need(boolean holds, int why, int detail) {
        if (!holds) {
            throw new Refused(why, detail);
        }
    }

    private static State withVersion(State s, int house, Page pages) {
        List<Version> versions = new ArrayList<>(s.versions);
        versions.add(new Version(s.ledgers.get(house), s.year, pages));
        State next = new State(versions, s.ledgers, s.year, s.writings, s.graftings);
        return withLedger(next, house, versions.size() - 1);
    }

    private static State withLedger(State s, int house, int version) {
        List<Integer> ledgers = new ArrayList<>(s.ledgers);
        ledgers.set(house, version);
        return new State(s.versions, ledgers, s.year, s.writings, s.graftings);
    }

    private static Page written(Page page, int lines, int line, int amount, int maker) {
        if (lines == 1) {
            return new Page(null, null, maker, amount);
        }
        int half = lines / 2;
        return line < half
            ? joined(written(page.lower, half, line, amount, maker), page.higher, maker)
            : joined(page.lower, written(page.higher, half, line - half, amount, maker), maker);
    }

    private static Page grafted(Page own, Page others, int low, int high, int first, int last, int maker) {
        if (high < first || last < low) {
            return own;
        }
        if (first <= low && high <= last) {
            return others;
        }
        int middle = (low + high) / 2;
        return joined(grafted(own.lower, others.lower, low, middle, first, last, maker),
            grafted(own.higher, others.higher, middle + 1, high, first, last, maker), maker);
    }

    private static Page joined(Page lower, Page higher, int maker) {
        return new Page(lower, higher, maker, lower.sum + higher.sum);
    }

    // What is read of a state.

    private static List<Integer> lineOf(State s, int version) {
        List<Integer> line = new ArrayList<>();
        for (int v = version; v >= 0; v = s.versions.get(v).parent) {
            line.add(v);
        }
        return line;
    }

    private static int[] amountsOf(State s, int version) {
        List<Page> row = pagesOf(s, version);
        int[] amounts = new int[16];
        for (int i = 0; i < 16; i++) {
            amounts[i] = row.get(15 + i).sum;
        }
        return amounts;
    }

    private static int amountOf(State s, int version, int line) {
        return amountsOf(s, version)[line];
    }

    /** The pages of a version by their spans. */
    private static List<Page> pagesOf(State s, int version) {
        List<Page> row = new ArrayList<>();
        row.add(s.versions.get(version).pages);
        for (int i = 0; row.size() < 31; i++) {
            row.add(row.get(i).lower);
            row.add(row.get(i).higher);
        }
        return row;
    }

    private void needVersion(int version) {
        if (version < 0 || version >= state.versions.size()) {
            throw new IndexOutOfBoundsException();
        }
    }

    private static void needArgument(boolean holds) {
        if (!holds) {
            throw new IllegalArgumentException();
        }
    }

    private static void needLines(int first, int last) {
        needArgument(first >= 0 && first <= last && last <= 15);
    }

    private void goTo(State next) {
        past.push(state);
        while (past.size() > 8) {
            past.removeLast();
        }
        state = next;
    }

    private static State carriedOut(State s, String name, int[] n) {
        switch (name) {
            case "write": return write(s, n[0], n[1], n[2]);
            case "graft": return graft(s, n[0], n[1], n[2], n[3]);
            case "fork": return fork(s, n[0], n[1]);
            case "back": return back(s, n[0], n[1]);
            default: return pass(s, n[0]);
        }
    }

    long change(String name, int[] n) {
        try {
            goTo(carriedOut(state, name, n));
        } catch (Refused e) {
            reason = new int[] {e.why, e.detail, 0};
            throw new UnsupportedOperationException();
        }
        return name.equals("pass") ? state.year : state.ledgers.get(n[0]);
    }

    int append(char character) {
        if (text.length() >= 60) {
            throw new IllegalStateException();
        }
        text += character;
        return text.length();
    }

    private static int faultOf(String text) {
        if (TEXT.matcher(text).matches()) {
            return -1;
        }
        for (int i = 0; i < text.length(); i++) {
            Matcher matcher = TEXT.matcher(text.substring(0, i + 1));
            if (!matcher.matches() && !matcher.hitEnd()) {
                return i;
            }
        }
        return text.length();
    }

    int commands() {
        String given = text;
        text = "";
        fault = faultOf(given);
        needArgument(fault < 0);
        State next = state;
        String[] all = given.split(";");
        for (int i = 0; i < all.length; i++) {
            int[] n = Arrays.stream(all[i].substring(1).split("[^0-9]")).mapToInt(Integer::parseInt).toArray();
            String name = switch (all[i].charAt(0)) {
                case 'w' -> "write";
                case 'g' -> "graft";
                case 'f' -> "fork";
                case 'b' -> "back";
                default -> "pass";
            };
            try {
                next = carriedOut(next, name, n);
            } catch (Refused e) {
                reason = new int[] {e.why, e.detail, i};
                throw new UnsupportedOperationException();
            }
        }
        goTo(next);
        return all.length;
    }

    int faultPosition() {
        return fault;
    }

    int reason(int what) {
        needArgument(what >= 0 && what <= 2);
        if (reason == null) {
            throw new NoSuchElementException();
        }
        return reason[what];
    }

    int ledger(int house) {
        if (house < 0 || house > 3) {
            throw new IndexOutOfBoundsException();
        }
        return state.ledgers.get(house);
    }

    int amount(int version, int line) {
        needVersion(version);
        needLines(line, line);
        return amountOf(state, version, line);
    }

    int sum(int version, int first, int last) {
        needVersion(version);
        needLines(first, last);
        return Arrays.stream(amountsOf(state, version), first, last + 1).sum();
    }

    int most(int version, int first, int last) {
        needVersion(version);
        needLines(first, last);
        int[] amounts = amountsOf(state, version);
        int greatest = Arrays.stream(amounts, first, last + 1).max().getAsInt();
        int line = first;
        while (amounts[line] != greatest) {
            line++;
        }
        return line;
    }

    int reached(int version, int sum) {
        needVersion(version);
        for (int line = 0; line < 16; line++) {
            if (sum(version, 0, line) >= sum) {
                return line;
            }
        }
        throw new NoSuchElementException();
    }

    int versionOf(int version, int what) {
        needVersion(version);
        needArgument(what >= 0 && what <= 6);
        Version v = state.versions.get(version);
        switch (what) {
            case 0: return v.parent;
            case 1: return v.year;
            case 2: return lineOf(state, version).size() - 1;
            case 3: return (int) state.versions.stream().filter(w -> w.parent == version).count();
            case 4: return (int) pagesOf(state, version).stream().filter(p -> p.maker == version).count();
            case 5: return version == 0 ? 0 : apart(version, v.parent);
            default: return (int) state.ledgers.stream().filter(l -> l == version).count();
        }
    }

    int maker(int version, int span) {
        needVersion(version);
        needArgument(span >= 0 && span <= 30);
        return pagesOf(state, version).get(span).maker;
    }

    int had(int house, int year) {
        int ledger = ledger(house);
        needArgument(year >= 0 && year <= 99);
        return lineOf(state, ledger).stream().filter(v -> state.versions.get(v).year <= year)
            .mapToInt(v -> v).max().getAsInt();
    }

    int since(int version, int line) {
        needVersion(version);
        needLines(line, line);
        int earliest = version;
        for (int v : lineOf(state, version)) {
            if (amountOf(state, v, line) != amountOf(state, version, line)) {
                break;
            }
            earliest = v;
        }
        return earliest;
    }

    int common(int one, int other) {
        needVersion(one);
        needVersion(other);
        Set<Integer> both = new HashSet<>(lineOf(state, one));
        both.retainAll(lineOf(state, other));
        return both.stream().mapToInt(v -> v).max().getAsInt();
    }

    int apart(int one, int other) {
        needVersion(one);
        needVersion(other);
        int[] a = amountsOf(state, one);
        int[] b = amountsOf(state, other);
        int lines = 0;
        for (int i = 0; i < 16; i++) {
            lines += a[i] == b[i] ? 0 : 1;
        }
        return lines;
    }

    int shared(int one, int other) {
        needVersion(one);
        needVersion(other);
        int pages = 0;
        for (int span = 0; span < 31; span++) {
            pages += maker(one, span) == maker(other, span) ? 1 : 0;
        }
        return pages;
    }

    boolean isOf(int one, int other) {
        needVersion(one);
        needVersion(other);
        return lineOf(state, other).contains(one);
    }

    int users(int version, int span) {
        int maker = maker(version, span);
        int users = 0;
        for (int v = 0; v < state.versions.size(); v++) {
            users += maker(v, span) == maker ? 1 : 0;
        }
        return users;
    }

    int wouldMake(int first, int last) {
        needLines(first, last);
        return cut(0, 15, first, last);
    }

    private static int cut(int low, int high, int first, int last) {
        if (high < first || last < low || first <= low && high <= last) {
            return 0;
        }
        int middle = (low + high) / 2;
        return 1 + cut(low, middle, first, last) + cut(middle + 1, high, first, last);
    }

    int alike(int version) {
        needVersion(version);
        int found = -1;
        for (int v = 0; v < state.versions.size(); v++) {
            found += Arrays.equals(amountsOf(state, v), amountsOf(state, version)) ? 1 : 0;
        }
        return found;
    }

    int richest(int place) {
        List<Integer> order = new ArrayList<>();
        for (int v = 0; v < state.versions.size(); v++) {
            order.add(v);
        }
        order.sort((a, b) -> sum(a, 0, 15) != sum(b, 0, 15) ? sum(b, 0, 15) - sum(a, 0, 15) : b - a);
        if (place < 0 || place >= order.size()) {
            throw new NoSuchElementException();
        }
        return order.get(place);
    }

    int busiest() {
        if (state.versions.size() == 1) {
            throw new NoSuchElementException();
        }
        int[] pages = new int[state.versions.size()];
        for (int span = 0; span < 31; span++) {
            for (int v = 1; v < pages.length; v++) {
                if (maker(v, span) == v && users(v, span) > 1) {
                    pages[v]++;
                }
            }
        }
        int best = 1;
        for (int v = 2; v < pages.length; v++) {
            best = pages[v] > pages[best] ? v : best;
        }
        return best;
    }

    int line(int version) {
        needVersion(version);
        List<String> parts = new ArrayList<>();
        for (int i = 0; i < 16; i++) {
            if (amount(version, i) != 0) {
                parts.add(i + "=" + amount(version, i));
            }
        }
        line = String.join(",", parts);
        return line.length();
    }

    int lineage(int version) {
        needVersion(version);
        line = String.join("<", lineOf(state, version).stream().map(String::valueOf).toList());
        return line.length();
    }

    char character(int index) {
        if (index < 0 || index >= line.length()) {
            throw new IndexOutOfBoundsException();
        }
        return line.charAt(index);
    }

    double mean(int version) {
        needVersion(version);
        return sum(version, 0, 15) / 16.0;
    }

    float spared() {
        int all = 31 * state.versions.size();
        return (float) (all - account(2)) / (float) all;
    }

    int account(int what) {
        needArgument(what >= 0 && what <= 8);
        int versions = state.versions.size();
        int pages = 0;
        int leaves = 0;
        for (int v = 0; v < versions; v++) {
            pages += versionOf(v, 4);
            leaves += versionOf(v, 3) == 0 ? 1 : 0;
        }
        int houses = new HashSet<>(state.ledgers).size();
        int[] all = {versions, state.year, pages, houses, leaves, state.writings, state.graftings, past.size(),
            text.length()};
        return all[what];
    }

    int undo() {
        if (past.isEmpty()) {
            throw new IllegalStateException();
        }
        state = past.pop();
        return past.size();
    }

    int save() {
        saved = state;
        return state.versions.size();
    }

    int restore() {
        if (saved == null) {
            throw new IllegalStateException();
        }
        state = saved;
        past.clear();
        return state.versions.size();
    }
}
