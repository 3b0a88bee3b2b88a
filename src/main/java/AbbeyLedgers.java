import java.util.NoSuchElementException;

/** Ledgers of abbeys that are copied page by page; ../shared/DOC.md says what each call does. */
public final class AbbeyLedgers {
    private static final int LINES = 16;
    private static final int SPANS = 31;
    private static final int FIRST_SINGLE_SPAN = 15;
    private static final int HOUSES = 4;
    private static final int MOST_VERSIONS = 40;
    private static final int LAST_YEAR = 99;
    private static final int GREATEST_AMOUNT = 999;
    private static final int MOST_CHARACTERS = 60;
    private static final int MOST_UNDONE = 8;

    // The longest line is the lineage of 40 versions in a row: 70 digits with 39 signs between them.
    private static final int LONGEST_LINE = 109;

    private static final int NONE = -1;
    private static final int REFUSED = -1;

    private static final int OUT_OF_RANGE = 1;
    private static final int TOO_MANY_VERSIONS = 2;
    private static final int SO_ALREADY = 3;
    private static final int NO_SUCH_VERSION = 4;
    private static final int LINES_TURNED_ROUND = 5;
    private static final int ONE_HOUSE = 6;
    private static final int TOO_FEW_ANCESTORS = 7;
    private static final int BEHIND_LAST_YEAR = 8;

    private static final int[] LOWEST_LINE_OF_SPAN = {
        0,
        0, 8,
        0, 4, 8, 12,
        0, 2, 4, 6, 8, 10, 12, 14,
        0, 1, 2, 3, 4, 5, 6, 7, 8, 9, 10, 11, 12, 13, 14, 15};
    private static final int[] HIGHEST_LINE_OF_SPAN = {
        15,
        7, 15,
        3, 7, 11, 15,
        1, 3, 5, 7, 9, 11, 13, 15,
        0, 1, 2, 3, 4, 5, 6, 7, 8, 9, 10, 11, 12, 13, 14, 15};

    private final Clerk clerk = new Clerk();
    private final Refusal refusal = clerk.refusal;
    private final Books books = clerk.books;
    private final Versions versions = books.versions;
    private final Books saved = new Books();
    private boolean hasSaved = false;
    private final Past past = new Past();
    private final Draft draft = new Draft();
    private int faultOfDraft = NONE;
    private final Script script = new Script();

    public AbbeyLedgers() {
    }

    public int write(int house, int line, int amount) throws UnsupportedOperationException {
        past.note(books);
        return settled(clerk.enter(house, line, amount));
    }

    public int graft(int house, int version, int first, int last) throws UnsupportedOperationException {
        past.note(books);
        return settled(clerk.copyLines(house, version, first, last));
    }

    public int fork(int house, int from) throws UnsupportedOperationException {
        past.note(books);
        return settled(clerk.takeOver(house, from));
    }

    public int back(int house, int versions) throws UnsupportedOperationException {
        past.note(books);
        return settled(clerk.goBack(house, versions));
    }

    public int pass(int years) throws UnsupportedOperationException {
        past.note(books);
        return settled(clerk.letGoBy(years));
    }

    public int ledger(int house) throws IndexOutOfBoundsException {
        checkHouse(house);
        return books.ledgerOf(house);
    }

    public int amount(int version, int line) throws IndexOutOfBoundsException, IllegalArgumentException {
        checkVersion(version);
        checkLines(line, line);
        return versions.amountOn(version, line);
    }

    public int sum(int version, int first, int last) throws IndexOutOfBoundsException, IllegalArgumentException {
        checkVersion(version);
        checkLines(first, last);
        return versions.sumByPages(version, first, last);
    }

    public int sumAgain(int version, int first, int last)
            throws IndexOutOfBoundsException, IllegalArgumentException {
        checkVersion(version);
        checkLines(first, last);
        return versions.sumByLines(version, first, last);
    }

    public int most(int version, int first, int last) throws IndexOutOfBoundsException, IllegalArgumentException {
        checkVersion(version);
        checkLines(first, last);
        return versions.lineWithMost(version, first, last);
    }

    public int reached(int version, int sum) throws IndexOutOfBoundsException, NoSuchElementException {
        checkVersion(version);
        int line = versions.lineReaching(version, sum);
        if (line == NONE) {
            throw new NoSuchElementException("the sum is not reached");
        }
        return line;
    }

    public int versionOf(int version, int what) throws IndexOutOfBoundsException, IllegalArgumentException {
        checkVersion(version);
        switch (what) {
            case 0: return versions.parentOf(version);
            case 1: return versions.yearOf(version);
            case 2: return versions.ancestorsOf(version);
            case 3: return versions.childrenOf(version);
            case 4: return versions.pagesMadeBy(version);
            case 5: return versions.linesNewIn(version);
            case 6: return books.housesWith(version);
            default: throw new IllegalArgumentException("no such number of a version");
        }
    }

    public int maker(int version, int span) throws IndexOutOfBoundsException, IllegalArgumentException {
        checkVersion(version);
        checkSpan(span);
        return versions.makerOf(version, span);
    }

    public int had(int house, int year) throws IndexOutOfBoundsException, IllegalArgumentException {
        checkHouse(house);
        if (year < 0 || year > LAST_YEAR) {
            throw new IllegalArgumentException("no such year");
        }
        return versions.latestByYear(books.ledgerOf(house), year);
    }

    public int since(int version, int line) throws IndexOutOfBoundsException, IllegalArgumentException {
        checkVersion(version);
        checkLines(line, line);
        return versions.earliestWithAmountOf(version, line);
    }

    public int common(int one, int other) throws IndexOutOfBoundsException {
        checkVersion(one);
        checkVersion(other);
        return versions.latestCommon(one, other);
    }

    public int apart(int one, int other) throws IndexOutOfBoundsException {
        checkVersion(one);
        checkVersion(other);
        return versions.linesApart(one, other, 0, LINES - 1);
    }

    public int shared(int one, int other) throws IndexOutOfBoundsException {
        checkVersion(one);
        checkVersion(other);
        return versions.pagesInBoth(one, other);
    }

    public boolean isOf(int one, int other) throws IndexOutOfBoundsException {
        checkVersion(one);
        checkVersion(other);
        return versions.latestCommon(one, other) == one;
    }

    public int users(int version, int span) throws IndexOutOfBoundsException, IllegalArgumentException {
        checkVersion(version);
        checkSpan(span);
        return versions.usersOf(versions.makerOf(version, span), span);
    }

    public int wouldMake(int first, int last) throws IllegalArgumentException {
        checkLines(first, last);
        int pages = 0;
        for (int span = 0; span < SPANS; span++) {
            if (isCut(span, first, last)) {
                pages++;
            }
        }
        return pages;
    }

    public int alike(int version) throws IndexOutOfBoundsException {
        checkVersion(version);
        return versions.othersAlike(version);
    }

    public int richest(int place) throws NoSuchElementException {
        int version = versions.atPlace(place);
        if (version == NONE) {
            throw new NoSuchElementException("no such place");
        }
        return version;
    }

    public int busiest() throws NoSuchElementException {
        if (versions.size() < 2) {
            throw new NoSuchElementException("there is only the version 0");
        }
        return versions.withMostPagesOfOthers();
    }

    public int append(char character) throws IllegalStateException {
        if (draft.isFull()) {
            throw new IllegalStateException("the buffer is full");
        }
        draft.put(character);
        return draft.size();
    }

    public int commands() throws IllegalArgumentException, UnsupportedOperationException {
        faultOfDraft = draft.findFault();
        if (faultOfDraft != NONE) {
            draft.clear();
            throw new IllegalArgumentException("the text has a fault");
        }
        past.note(books);
        draft.rewind();
        int done = 0;
        boolean isRefused = false;
        while (!isRefused && done < MOST_CHARACTERS && draft.readCommand()) {
            isRefused = clerk.carryOut(draft) == REFUSED;
            if (isRefused) {
                refusal.command = done;
            }
            draft.readSign(';');
            done++;
        }
        draft.clear();
        return settled(isRefused ? REFUSED : done);
    }

    public int faultPosition() {
        return faultOfDraft;
    }

    public int reason(int what) throws IllegalArgumentException, NoSuchElementException {
        if (what < 0 || what > 2) {
            throw new IllegalArgumentException("no such number of a reason");
        }
        if (refusal.why == 0) {
            throw new NoSuchElementException("nothing was refused");
        }
        if (what == 0) {
            return refusal.why;
        }
        return what == 1 ? refusal.detail : refusal.command;
    }

    public int line(int version) throws IndexOutOfBoundsException {
        checkVersion(version);
        script.clear();
        for (int line = 0; line < LINES; line++) {
            int amount = versions.amountOn(version, line);
            if (amount != 0) {
                script.separate(',');
                script.putNumber(line);
                script.put('=');
                script.putNumber(amount);
            }
        }
        return script.size();
    }

    public int lineage(int version) throws IndexOutOfBoundsException {
        checkVersion(version);
        script.clear();
        int at = version;
        for (int steps = 0; steps < MOST_VERSIONS && at != NONE; steps++) {
            script.separate('<');
            script.putNumber(at);
            at = versions.parentOf(at);
        }
        return script.size();
    }

    public char character(int index) throws IndexOutOfBoundsException {
        if (index < 0 || index >= script.size()) {
            throw new IndexOutOfBoundsException("no such index");
        }
        return script.signAt(index);
    }

    public double mean(int version) throws IndexOutOfBoundsException {
        checkVersion(version);
        return (double) versions.totalOf(version, 0) / (double) LINES;
    }

    public float spared() {
        int all = versions.size() * SPANS;
        return all > 0 ? (float) (all - versions.pagesMade()) / (float) all : 0.0f;
    }

    public int account(int what) throws IllegalArgumentException {
        switch (what) {
            case 0: return versions.size();
            case 1: return books.year;
            case 2: return versions.pagesMade();
            case 3: return books.versionsOfHouses();
            case 4: return versions.withoutChildren();
            case 5: return books.writings;
            case 6: return books.graftings;
            case 7: return past.size();
            case 8: return draft.size();
            default: throw new IllegalArgumentException("no such account");
        }
    }

    public int undo() throws IllegalStateException {
        if (past.size() < 1) {
            throw new IllegalStateException("there is nothing to undo");
        }
        past.dropLatest();
        past.takeBack(books);
        return past.size();
    }

    public int save() {
        saved.copyFrom(books);
        hasSaved = true;
        return versions.size();
    }

    public int restore() throws IllegalStateException {
        if (!hasSaved) {
            throw new IllegalStateException("there is no snapshot");
        }
        books.copyFrom(saved);
        past.forget();
        return versions.size();
    }

    private int settled(int answer) {
        if (answer == REFUSED) {
            past.takeBack(books);
            throw new UnsupportedOperationException("refused");
        }
        past.keep();
        return answer;
    }

    private void checkVersion(int version) {
        if (!versions.has(version)) {
            throw new IndexOutOfBoundsException("no such version");
        }
    }

    private static void checkHouse(int house) {
        if (!isHouse(house)) {
            throw new IndexOutOfBoundsException("no such house");
        }
    }

    private static void checkLines(int first, int last) {
        if (!isLine(first) || !isLine(last) || last < first) {
            throw new IllegalArgumentException("no such lines");
        }
    }

    private static void checkSpan(int span) {
        if (!isSpan(span)) {
            throw new IllegalArgumentException("no such span");
        }
    }

    private static boolean isHouse(int house) {
        return house >= 0 && house < HOUSES;
    }

    private static boolean isLine(int line) {
        return line >= 0 && line < LINES;
    }

    private static boolean isSpan(int span) {
        return span >= 0 && span < SPANS;
    }

    private static boolean isInside(int span, int first, int last) {
        return isSpan(span) && LOWEST_LINE_OF_SPAN[span] >= first && HIGHEST_LINE_OF_SPAN[span] <= last;
    }

    /** Whether a span has some of these lines, and others too. */
    private static boolean isCut(int span, int first, int last) {
        return isSpan(span) && LOWEST_LINE_OF_SPAN[span] <= last && HIGHEST_LINE_OF_SPAN[span] >= first
            && (LOWEST_LINE_OF_SPAN[span] < first || HIGHEST_LINE_OF_SPAN[span] > last);
    }

    private static boolean isDigit(char sign) {
        return sign >= '0' && sign <= '9';
    }

    /** The versions and their pages. A page is known by its maker and its span, and keeps the sum of its lines. */
    private static final class Versions {
        private int count = 1;
        private final int[] parents = new int[MOST_VERSIONS];
        private final int[] years = new int[MOST_VERSIONS];
        private final int[] makers = new int[MOST_VERSIONS * SPANS];
        private final int[] totals = new int[MOST_VERSIONS * SPANS];

        Versions() {
            parents[0] = NONE;
        }

        void copyFrom(Versions other) {
            count = other.count;
            System.arraycopy(other.parents, 0, parents, 0, MOST_VERSIONS);
            System.arraycopy(other.years, 0, years, 0, MOST_VERSIONS);
            System.arraycopy(other.makers, 0, makers, 0, MOST_VERSIONS * SPANS);
            System.arraycopy(other.totals, 0, totals, 0, MOST_VERSIONS * SPANS);
        }

        int size() {
            return count;
        }

        void forgetFrom(int version) {
            if (version >= 1 && version < count) {
                count = version;
            }
        }

        boolean has(int version) {
            return version >= 0 && version < count && version < MOST_VERSIONS;
        }

        boolean isFull() {
            return count >= MOST_VERSIONS;
        }

        int parentOf(int version) {
            return has(version) ? parents[version] : NONE;
        }

        int yearOf(int version) {
            return has(version) ? years[version] : 0;
        }

        int makerOf(int version, int span) {
            return has(version) && isSpan(span) ? makers[version * SPANS + span] : NONE;
        }

        int totalOf(int version, int span) {
            if (!has(version) || !isSpan(span)) {
                return 0;
            }
            int maker = makers[version * SPANS + span];
            return has(maker) ? totals[maker * SPANS + span] : 0;
        }

        int amountOn(int version, int line) {
            return totalOf(version, FIRST_SINGLE_SPAN + line);
        }

        int addWritten(int parent, int year, int line, int amount) {
            int version = addChild(parent, year);
            for (int span = SPANS - 1; span >= 0; span--) {
                if (span == FIRST_SINGLE_SPAN + line) {
                    makePage(version, span, amount);
                } else if (isCut(span, line, line)) {
                    makePage(version, span, totalOfHalves(version, span));
                }
            }
            return version;
        }

        int addGrafted(int parent, int year, int source, int first, int last) {
            int version = addChild(parent, year);
            for (int span = SPANS - 1; span >= 0; span--) {
                if (isInside(span, first, last)) {
                    takePage(version, span, source);
                } else if (isCut(span, first, last)) {
                    makePage(version, span, totalOfHalves(version, span));
                }
            }
            return version;
        }

        private int addChild(int parent, int year) {
            if (isFull() || !has(parent)) {
                return NONE;
            }
            int version = count;
            count++;
            parents[version] = parent;
            years[version] = year;
            System.arraycopy(makers, parent * SPANS, makers, version * SPANS, SPANS);
            return version;
        }

        private void makePage(int version, int span, int total) {
            if (has(version) && isSpan(span)) {
                makers[version * SPANS + span] = version;
                totals[version * SPANS + span] = total;
            }
        }

        private void takePage(int version, int span, int source) {
            if (has(version) && has(source) && isSpan(span)) {
                makers[version * SPANS + span] = makers[source * SPANS + span];
            }
        }

        private int totalOfHalves(int version, int span) {
            return totalOf(version, 2 * span + 1) + totalOf(version, 2 * span + 2);
        }

        int sumByPages(int version, int first, int last) {
            int sum = 0;
            for (int span = 0; span < SPANS; span++) {
                boolean isInLarger = span > 0 && isInside((span - 1) / 2, first, last);
                if (!isInLarger && isInside(span, first, last)) {
                    sum += totalOf(version, span);
                }
            }
            return sum;
        }

        int sumByLines(int version, int first, int last) {
            int sum = 0;
            for (int line = 0; line < LINES; line++) {
                if (line >= first && line <= last) {
                    sum += amountOn(version, line);
                }
            }
            return sum;
        }

        int lineWithMost(int version, int first, int last) {
            int best = first;
            for (int line = 0; line < LINES; line++) {
                if (line > first && line <= last && amountOn(version, line) > amountOn(version, best)) {
                    best = line;
                }
            }
            return best;
        }

        int lineReaching(int version, int wanted) {
            int sum = 0;
            for (int line = 0; line < LINES; line++) {
                sum += amountOn(version, line);
                if (sum >= wanted) {
                    return line;
                }
            }
            return NONE;
        }

        /** The version so many parents back, or NONE where the line is shorter. */
        int earlier(int version, int steps) {
            int at = version;
            for (int i = 0; i < steps && at != NONE; i++) {
                at = parentOf(at);
            }
            return at;
        }

        int ancestorsOf(int version) {
            int ancestors = 0;
            int at = parentOf(version);
            while (ancestors < MOST_VERSIONS && at != NONE) {
                ancestors++;
                at = parentOf(at);
            }
            return ancestors;
        }

        int childrenOf(int version) {
            int children = 0;
            for (int other = 1; other < count; other++) {
                if (parentOf(other) == version) {
                    children++;
                }
            }
            return children;
        }

        int withoutChildren() {
            int found = 0;
            for (int version = 0; version < count; version++) {
                if (childrenOf(version) == 0) {
                    found++;
                }
            }
            return found;
        }

        int pagesMadeBy(int version) {
            int pages = 0;
            for (int span = 0; span < SPANS; span++) {
                if (makerOf(version, span) == version) {
                    pages++;
                }
            }
            return pages;
        }

        int pagesMade() {
            int pages = 0;
            for (int version = 0; version < count; version++) {
                pages += pagesMadeBy(version);
            }
            return pages;
        }

        int linesNewIn(int version) {
            int parent = parentOf(version);
            return parent == NONE ? 0 : linesApart(version, parent, 0, LINES - 1);
        }

        int linesApart(int one, int other, int first, int last) {
            int lines = 0;
            for (int line = 0; line < LINES; line++) {
                if (line >= first && line <= last && amountOn(one, line) != amountOn(other, line)) {
                    lines++;
                }
            }
            return lines;
        }

        int othersAlike(int version) {
            int found = 0;
            for (int other = 0; other < count; other++) {
                if (other != version && linesApart(version, other, 0, LINES - 1) == 0) {
                    found++;
                }
            }
            return found;
        }

        int latestByYear(int version, int year) {
            int at = version;
            for (int steps = 0; steps < MOST_VERSIONS && at > 0 && yearOf(at) > year; steps++) {
                at = parentOf(at);
            }
            return at;
        }

        int earliestWithAmountOf(int version, int line) {
            int amount = amountOn(version, line);
            int earliest = version;
            int at = parentOf(version);
            for (int steps = 0; steps < MOST_VERSIONS && at != NONE && amountOn(at, line) == amount; steps++) {
                earliest = at;
                at = parentOf(at);
            }
            return earliest;
        }

        // A parent is always earlier than its child, so the later of two different versions is not common to both.
        int latestCommon(int one, int other) {
            int a = one;
            int b = other;
            for (int steps = 0; steps < 2 * MOST_VERSIONS && a != b; steps++) {
                if (a > b) {
                    a = parentOf(a);
                } else {
                    b = parentOf(b);
                }
            }
            return a;
        }

        int pagesInBoth(int one, int other) {
            int pages = 0;
            for (int span = 0; span < SPANS; span++) {
                if (makerOf(one, span) == makerOf(other, span)) {
                    pages++;
                }
            }
            return pages;
        }

        int usersOf(int maker, int span) {
            int users = 0;
            for (int version = 0; version < count; version++) {
                if (makerOf(version, span) == maker) {
                    users++;
                }
            }
            return users;
        }

        /** The version that has so many others ahead of it by their sums, or NONE. */
        int atPlace(int place) {
            for (int version = 0; version < count; version++) {
                if (versionsAheadOf(version) == place) {
                    return version;
                }
            }
            return NONE;
        }

        private int versionsAheadOf(int version) {
            int total = totalOf(version, 0);
            int ahead = 0;
            for (int other = 0; other < count; other++) {
                int otherTotal = totalOf(other, 0);
                if (otherTotal > total || otherTotal == total && other > version) {
                    ahead++;
                }
            }
            return ahead;
        }

        int withMostPagesOfOthers() {
            int best = 1;
            int most = 0;
            for (int version = 1; version < count; version++) {
                int pages = pagesOfOthersMadeBy(version);
                if (pages > most) {
                    best = version;
                    most = pages;
                }
            }
            return best;
        }

        private int pagesOfOthersMadeBy(int version) {
            int pages = 0;
            for (int span = 0; span < SPANS; span++) {
                if (makerOf(version, span) == version && usersOf(version, span) > 1) {
                    pages++;
                }
            }
            return pages;
        }
    }

    /** All that can be undone. */
    private static final class Books {
        // A mark has the number of versions, the year, the writings, the graftings and the ledgers of the houses.
        static final int MARK = 4 + HOUSES;

        final Versions versions = new Versions();
        private final int[] ledgers = new int[HOUSES];
        private int year = 0;
        private int writings = 0;
        private int graftings = 0;

        void copyFrom(Books other) {
            versions.copyFrom(other.versions);
            System.arraycopy(other.ledgers, 0, ledgers, 0, HOUSES);
            year = other.year;
            writings = other.writings;
            graftings = other.graftings;
        }

        // Versions are only added, never changed: until a snapshot is restored, their number
        // is enough to come back to those that there were.
        void noteIn(int[] marks, int at) {
            if (at >= 0 && at <= marks.length - MARK) {
                marks[at] = versions.size();
                marks[at + 1] = year;
                marks[at + 2] = writings;
                marks[at + 3] = graftings;
                System.arraycopy(ledgers, 0, marks, at + 4, HOUSES);
            }
        }

        void returnTo(int[] marks, int at) {
            if (at >= 0 && at <= marks.length - MARK) {
                versions.forgetFrom(marks[at]);
                year = marks[at + 1];
                writings = marks[at + 2];
                graftings = marks[at + 3];
                System.arraycopy(marks, at + 4, ledgers, 0, HOUSES);
            }
        }

        int ledgerOf(int house) {
            return isHouse(house) ? ledgers[house] : NONE;
        }

        void giveLedger(int house, int version) {
            if (isHouse(house) && versions.has(version)) {
                ledgers[house] = version;
            }
        }

        int housesWith(int version) {
            int houses = 0;
            for (int house = 0; house < HOUSES; house++) {
                if (ledgerOf(house) == version) {
                    houses++;
                }
            }
            return houses;
        }

        int versionsOfHouses() {
            int found = 0;
            for (int version = 0; version < versions.size(); version++) {
                if (housesWith(version) > 0) {
                    found++;
                }
            }
            return found;
        }
    }

    /** What there was before the latest changes, and behind it what there was before the change under way. */
    private static final class Past {
        private final int[] marks = new int[(MOST_UNDONE + 1) * Books.MARK];
        private int kept = 0;

        int size() {
            return kept;
        }

        void note(Books books) {
            books.noteIn(marks, kept * Books.MARK);
        }

        void takeBack(Books books) {
            books.returnTo(marks, kept * Books.MARK);
        }

        void keep() {
            if (kept < MOST_UNDONE) {
                kept++;
            } else {
                System.arraycopy(marks, Books.MARK, marks, 0, MOST_UNDONE * Books.MARK);
            }
        }

        void dropLatest() {
            if (kept > 0) {
                kept--;
            }
        }

        void forget() {
            kept = 0;
        }
    }

    /** The reason that is kept; why is 0 as long as nothing was refused. */
    private static final class Refusal {
        private int why = 0;
        private int detail = 0;
        private int command = 0;

        int refuse(int newWhy, int newDetail) {
            why = newWhy;
            detail = newDetail;
            command = 0;
            return REFUSED;
        }
    }

    /** Carries out the changes, or refuses them: then nothing but the reason is another one. */
    private static final class Clerk {
        final Books books = new Books();
        final Refusal refusal = new Refusal();
        private final Versions versions = books.versions;

        int carryOut(Draft draft) {
            int house = draft.number(0);
            switch (draft.kind()) {
                case 'w': return enter(house, draft.number(1), draft.number(2));
                case 'g': return copyLines(house, draft.number(1), draft.number(2), draft.number(3));
                case 'f': return takeOver(house, draft.number(1));
                case 'b': return goBack(house, draft.number(1));
                default: return letGoBy(draft.number(0));
            }
        }

        int enter(int house, int line, int amount) {
            if (!isHouse(house) || !isLine(line) || amount < 0 || amount > GREATEST_AMOUNT) {
                return refusal.refuse(OUT_OF_RANGE, 0);
            }
            int ledger = books.ledgerOf(house);
            if (versions.amountOn(ledger, line) == amount) {
                return refusal.refuse(SO_ALREADY, ledger);
            }
            if (versions.isFull()) {
                return refusal.refuse(TOO_MANY_VERSIONS, 0);
            }
            books.giveLedger(house, versions.addWritten(ledger, books.year, line, amount));
            books.writings++;
            return books.ledgerOf(house);
        }

        int copyLines(int house, int version, int first, int last) {
            if (!isHouse(house) || !isLine(first) || !isLine(last)) {
                return refusal.refuse(OUT_OF_RANGE, 0);
            }
            if (!versions.has(version)) {
                return refusal.refuse(NO_SUCH_VERSION, versions.size());
            }
            if (last < first) {
                return refusal.refuse(LINES_TURNED_ROUND, first - last);
            }
            int ledger = books.ledgerOf(house);
            if (versions.linesApart(ledger, version, first, last) == 0) {
                return refusal.refuse(SO_ALREADY, ledger);
            }
            if (versions.isFull()) {
                return refusal.refuse(TOO_MANY_VERSIONS, 0);
            }
            books.giveLedger(house, versions.addGrafted(ledger, books.year, version, first, last));
            books.graftings++;
            return books.ledgerOf(house);
        }

        int takeOver(int house, int from) {
            if (!isHouse(house) || !isHouse(from)) {
                return refusal.refuse(OUT_OF_RANGE, 0);
            }
            if (house == from) {
                return refusal.refuse(ONE_HOUSE, house);
            }
            int ledger = books.ledgerOf(from);
            if (books.ledgerOf(house) == ledger) {
                return refusal.refuse(SO_ALREADY, ledger);
            }
            books.giveLedger(house, ledger);
            return ledger;
        }

        int goBack(int house, int steps) {
            if (!isHouse(house) || steps < 1 || steps >= MOST_VERSIONS) {
                return refusal.refuse(OUT_OF_RANGE, 0);
            }
            int ledger = books.ledgerOf(house);
            int ancestors = versions.ancestorsOf(ledger);
            if (ancestors < steps) {
                return refusal.refuse(TOO_FEW_ANCESTORS, ancestors);
            }
            books.giveLedger(house, versions.earlier(ledger, steps));
            return books.ledgerOf(house);
        }

        int letGoBy(int years) {
            if (years < 1 || years > LAST_YEAR) {
                return refusal.refuse(OUT_OF_RANGE, 0);
            }
            if (books.year + years > LAST_YEAR) {
                return refusal.refuse(BEHIND_LAST_YEAR, books.year + years - LAST_YEAR);
            }
            books.year += years;
            return books.year;
        }
    }

    /** The text buffer, and the command in it that was read last. */
    private static final class Draft {
        private static final int MOST_NUMBERS = 4;

        private final char[] signs = new char[MOST_CHARACTERS];
        private int length = 0;
        private int position = 0;
        private char kind = ' ';
        private final int[] numbers = new int[MOST_NUMBERS];

        int size() {
            return length;
        }

        boolean isFull() {
            return length >= MOST_CHARACTERS;
        }

        void put(char sign) {
            if (!isFull()) {
                signs[length] = sign;
                length++;
            }
        }

        void clear() {
            length = 0;
        }

        void rewind() {
            position = 0;
        }

        char kind() {
            return kind;
        }

        int number(int place) {
            return place >= 0 && place < MOST_NUMBERS ? numbers[place] : 0;
        }

        int findFault() {
            rewind();
            for (int read = 0; read < MOST_CHARACTERS; read++) {
                if (!readCommand()) {
                    return position;
                }
                if (position >= length) {
                    return NONE;
                }
                if (!readSign(';')) {
                    return position;
                }
            }
            return position;
        }

        /** Reads one command; if there is none, the position stays at the first sign that does not fit. */
        boolean readCommand() {
            char letter = signAhead();
            String form = formOf(letter);
            if (form.isEmpty()) {
                return false;
            }
            kind = letter;
            position++;
            int place = 0;
            for (int i = 0; i < form.length(); i++) {
                char part = form.charAt(i);
                if (isDigit(part)) {
                    if (!readNumber(place, part - '0')) {
                        return false;
                    }
                    place++;
                } else if (!readSign(part)) {
                    return false;
                }
            }
            return true;
        }

        boolean readSign(char sign) {
            if (signAhead() != sign) {
                return false;
            }
            position++;
            return true;
        }

        private boolean readNumber(int place, int mostDigits) {
            int number = 0;
            int digits = 0;
            while (digits < mostDigits && isDigit(signAhead())) {
                number = 10 * number + (signAhead() - '0');
                digits++;
                position++;
            }
            if (place >= 0 && place < MOST_NUMBERS) {
                numbers[place] = number;
            }
            return digits > 0;
        }

        // No command has the character 0, so it can stand for the end of the text.
        private char signAhead() {
            return position >= 0 && position < length && position < MOST_CHARACTERS ? signs[position] : (char) 0;
        }

        /** What follows the letter of a command: a digit stands for a number of at most so many digits. */
        private static String formOf(char letter) {
            switch (letter) {
                case 'w': return "1/2=3";
                case 'g': return "1/2:2-2";
                case 'f': return "1<1";
                case 'b': return "1*2";
                case 'y': return "2";
                default: return "";
            }
        }
    }

    /** The line. */
    private static final class Script {
        private final char[] signs = new char[LONGEST_LINE];
        private int length = 0;

        int size() {
            return length;
        }

        char signAt(int index) {
            return index >= 0 && index < length && index < LONGEST_LINE ? signs[index] : (char) 0;
        }

        void clear() {
            length = 0;
        }

        void put(char sign) {
            if (length < LONGEST_LINE) {
                signs[length] = sign;
                length++;
            }
        }

        void separate(char sign) {
            if (length > 0) {
                put(sign);
            }
        }

        void putNumber(int number) {
            if (number >= 100) {
                put((char) ('0' + number / 100));
            }
            if (number >= 10) {
                put((char) ('0' + number / 10 % 10));
            }
            put((char) ('0' + number % 10));
        }
    }
}
