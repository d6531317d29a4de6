import java.util.Arrays;

/** Saved queries that wait for objects; the document (DOC.md) says what each call answers. */
public final class PercolateSets {
    public static final int BAD = -1, NONE = -2, FULL = -3;

    private static final int MOST_QUERIES = 40;
    private static final int MOST_ITEMS = 12;
    private static final int FIELDS = 4;
    private static final int ANY_FIELD = -1;
    private static final int MOST_LEAVES = 60;
    private static final int MOST_WORDS = 120;
    private static final int MOST_UNITS = 30;
    private static final int KEPT_ALERTS = 100;
    private static final int ALERT_PARTS = 4;

    private static final int WRONG_BYTE = 1, TOO_MANY = 2, WRONG_ORDER = 3;

    /** ALL as a set of bits: a query has 60 different words at most, so no real set has all 64. */
    private static final long ALL = -1L;
    private static final int COST_OF_ALL = 1000000;
    private static final int NO_BIT = -1;

    private final Tape tape = new Tape();
    private final QueryReader queryReader = new QueryReader(tape);
    private final ItemReader itemReader = new ItemReader(tape);
    private final Query[] queries = new Query[MOST_QUERIES];
    private final Item[] items = new Item[MOST_ITEMS];
    private int faultPlace = NONE;
    private int latestSerial;
    private int latestVersion;

    private final int[] matches = new int[MOST_QUERIES * MOST_ITEMS];
    private int matchCount;
    private int candidateCount;
    private int needlessCandidates;

    private final int[] keptAlerts = new int[KEPT_ALERTS * ALERT_PARTS];
    private int alertsTold;
    /** Serials and versions never come back, so the latest told pair of each query and key is enough. */
    private final int[] toldSerials = new int[MOST_QUERIES * MOST_ITEMS];
    private final int[] toldVersions = new int[MOST_QUERIES * MOST_ITEMS];

    private final boolean[] marks = new boolean[MOST_WORDS];
    private final int[] cursors = new int[MOST_QUERIES];

    public PercolateSets() {
    }

    public int feed(int a, int b, int c, int d, int e) {
        if (!tape.hasRoom()) {
            return FULL;
        }
        tape.append(a);
        tape.append(b);
        tape.append(c);
        tape.append(d);
        tape.append(e);
        return tape.length;
    }

    public int end(int n) {
        if (n < 0 || n > Tape.FEED || tape.length < Tape.FEED) {
            return BAD;
        }
        tape.length = tape.length - Tape.FEED + n;
        return tape.length;
    }

    public int save() {
        Query read = queryReader.readQuery(latestSerial + 1);
        endReading();
        if (read == null) {
            return faultAnswer();
        }
        int q = leastFree();
        if (q < 0) {
            return FULL;
        }
        keep(q, read);
        return q;
    }

    public int change(int q) {
        if (queryOf(q) == null) {
            return BAD;
        }
        Query read = queryReader.readQuery(latestSerial + 1);
        endReading();
        if (read == null) {
            return faultAnswer();
        }
        keep(q, read);
        return latestSerial;
    }

    public int drop(int q) {
        if (queryOf(q) == null) {
            return BAD;
        }
        queries[q] = null;
        return 1;
    }

    public int place() {
        return faultPlace;
    }

    public int query(int q, int what) {
        Query asked = queryOf(q);
        if (asked == null) {
            return BAD;
        }
        switch (what) {
            case 0:
                return asked.serial;
            case 1:
                return asked.needless ? NONE : asked.terms.length;
            case 2:
                return asked.needless ? NONE : asked.cost;
            case 3:
                return asked.leaves;
            default:
                return BAD;
        }
    }

    public int needed(int q, int k, int i) {
        Query asked = queryOf(q);
        Term term = asked == null ? null : asked.termAt(k);
        if (term == null || i < -2 || i >= term.length) {
            return BAD;
        }
        if (i == -2) {
            return term.kind == Term.BEGINNING ? 1 : 0;
        }
        return i == -1 ? term.length : term.signAt(i);
    }

    public int object(int key) {
        if (key < 0 || key >= MOST_ITEMS) {
            return BAD;
        }
        Item read = itemReader.readItem(latestVersion + 1);
        endReading();
        if (read == null) {
            return faultAnswer();
        }
        items[key] = read;
        latestVersion = read.version;
        return read.units;
    }

    public int forget(int key) {
        Item item = itemOf(key);
        if (item == null) {
            return BAD;
        }
        items[key] = null;
        return item.version;
    }

    public int about(int key, int what) {
        Item item = itemOf(key);
        if (item == null) {
            return BAD;
        }
        switch (what) {
            case 0:
                return item.version;
            case 1:
                return item.units;
            case 2:
                return item.words;
            case 3:
                return item.different;
            default:
                return BAD;
        }
    }

    public int unit(int key, int u, int what) {
        Item item = itemOf(key);
        if (item == null || u < 0 || u >= item.units) {
            return BAD;
        }
        if (what == 0) {
            return item.around[u];
        }
        if (what == 1) {
            return item.partFields[u];
        }
        int field = what - 2;
        if (field < 0 || field >= FIELDS) {
            return BAD;
        }
        return item.rowEnd(u, field) - item.rowStart(u, field);
    }

    public int run(int key) {
        Item item = itemOf(key);
        if (item == null) {
            return BAD;
        }
        beginRun();
        tryCandidates(key, item);
        return matchCount;
    }

    public int batch() {
        beginRun();
        for (int key = 0; key < MOST_ITEMS; key++) {
            Item item = items[key];
            if (item != null) {
                tryCandidates(key, item);
            }
        }
        return matchCount;
    }

    public int matched(int k) {
        return k < 0 || k >= matchCount ? BAD : matches[k];
    }

    public int alert(int k, int what) {
        boolean isKept = k >= 0 && k < alertsTold && k >= alertsTold - KEPT_ALERTS;
        if (!isKept || what < 0 || what >= ALERT_PARTS) {
            return BAD;
        }
        return keptAlerts[k % KEPT_ALERTS * ALERT_PARTS + what];
    }

    public int match(int q, int key) {
        Query asked = queryOf(q);
        Item item = itemOf(key);
        if (asked == null || item == null) {
            return BAD;
        }
        return asked.tree.holds(item, 0) ? 1 : 0;
    }

    public int candidate(int q, int key) {
        Query asked = queryOf(q);
        Item item = itemOf(key);
        if (asked == null || item == null) {
            return BAD;
        }
        return asked.isCandidateFor(item) ? 1 : 0;
    }

    public int tried(int key) {
        Item item = itemOf(key);
        if (item == null) {
            return BAD;
        }
        int holding = 0;
        for (int q = 0; q < MOST_QUERIES; q++) {
            Query each = queries[q];
            if (each != null && each.tree.holds(item, 0)) {
                holding++;
            }
        }
        return holding;
    }

    public int shown(int q, int key, int k) {
        Query asked = queryOf(q);
        Item item = itemOf(key);
        if (asked == null || item == null || k < -1) {
            return BAD;
        }
        markPlaces(asked, item);
        int before = 0;
        for (int word = 0; word < item.words && word < MOST_WORDS; word++) {
            if (marks[word]) {
                if (before == k) {
                    return item.spots[word];
                }
                before++;
            }
        }
        return k == -1 ? before : BAD;
    }

    public int count(int what) {
        switch (what) {
            case 0:
                return countQueries(false);
            case 1:
                return countQueries(true);
            case 2:
                return countItems();
            case 3:
                return alertsTold;
            case 4:
                return candidateCount;
            case 5:
                return needlessCandidates;
            case 6:
                return matchCount;
            case 7:
                return countDifferentTerms();
            case 8:
                return tape.length;
            case 9:
                return latestSerial;
            case 10:
                return latestVersion;
            default:
                return BAD;
        }
    }

    private Query queryOf(int q) {
        return q < 0 || q >= MOST_QUERIES ? null : queries[q];
    }

    private Item itemOf(int key) {
        return key < 0 || key >= MOST_ITEMS ? null : items[key];
    }

    private int leastFree() {
        for (int q = 0; q < MOST_QUERIES; q++) {
            if (queries[q] == null) {
                return q;
            }
        }
        return -1;
    }

    private void keep(int q, Query read) {
        queries[q] = read;
        latestSerial = read.serial;
    }

    private void endReading() {
        faultPlace = tape.faultPlace;
        tape.length = 0;
    }

    private int faultAnswer() {
        return -10 - tape.fault;
    }

    private void beginRun() {
        matchCount = 0;
        candidateCount = 0;
        needlessCandidates = 0;
    }

    private void tryCandidates(int key, Item item) {
        for (int q = 0; q < MOST_QUERIES; q++) {
            Query each = queries[q];
            if (each != null && each.isCandidateFor(item)) {
                candidateCount++;
                if (each.needless) {
                    needlessCandidates++;
                }
                if (each.tree.holds(item, 0)) {
                    addMatch(100 * key + q);
                    tellOnce(q, each.serial, key, item.version);
                }
            }
        }
    }

    private void addMatch(int keyAndNumber) {
        if (matchCount < matches.length) {
            matches[matchCount] = keyAndNumber;
            matchCount++;
        }
    }

    private void tellOnce(int q, int serial, int key, int version) {
        int pair = q * MOST_ITEMS + key;
        if (toldSerials[pair] == serial && toldVersions[pair] == version) {
            return;
        }
        toldSerials[pair] = serial;
        toldVersions[pair] = version;
        int from = Math.floorMod(alertsTold, KEPT_ALERTS) * ALERT_PARTS;
        alertsTold++;
        keptAlerts[from] = q;
        keptAlerts[from + 1] = serial;
        keptAlerts[from + 2] = key;
        keptAlerts[from + 3] = version;
    }

    private void markPlaces(Query asked, Item item) {
        for (int word = 0; word < MOST_WORDS; word++) {
            marks[word] = false;
        }
        if (asked.tree.holds(item, 0)) {
            asked.tree.mark(item, 0, marks);
        }
    }

    private int countQueries(boolean onlyNeedless) {
        int counted = 0;
        for (int q = 0; q < MOST_QUERIES; q++) {
            Query each = queries[q];
            if (each != null && (each.needless || !onlyNeedless)) {
                counted++;
            }
        }
        return counted;
    }

    private int countItems() {
        int counted = 0;
        for (int key = 0; key < MOST_ITEMS; key++) {
            if (items[key] != null) {
                counted++;
            }
        }
        return counted;
    }

    /** Each query's terms stand in ORDER, so one walk over all of them side by side meets like ones together. */
    private int countDifferentTerms() {
        Arrays.fill(cursors, 0);
        int different = 0;
        Term least = leastAtCursors();
        while (least != null && different < MOST_QUERIES * MOST_LEAVES) {
            different++;
            passCursors(least);
            least = leastAtCursors();
        }
        return different;
    }

    private Term leastAtCursors() {
        Term least = null;
        for (int q = 0; q < MOST_QUERIES; q++) {
            Term term = queries[q] == null ? null : queries[q].termAt(cursors[q]);
            if (term != null && (least == null || term.isBefore(least))) {
                least = term;
            }
        }
        return least;
    }

    private void passCursors(Term passed) {
        for (int q = 0; q < MOST_QUERIES; q++) {
            Term term = queries[q] == null ? null : queries[q].termAt(cursors[q]);
            if (term != null && term.isSame(passed)) {
                cursors[q]++;
            }
        }
    }

    /** The fed bytes with the place where reading stands, and the first fault that it met. */
    private static final class Tape {
        static final int FEED = 20;
        private static final int END = -1;
        private static final int ROOM = 700;

        private final byte[] bytes = new byte[ROOM];
        int length;
        int at;
        int fault;
        int faultPlace = NONE;
        /** What the latest readWord() read. */
        long wordCode;
        int wordLength;
        int wordNumber;

        boolean hasRoom() {
            return length + FEED <= ROOM;
        }

        void append(int number) {
            for (int shift = 24; shift >= 0 && length < ROOM; shift -= 8) {
                bytes[length] = (byte) (number >>> shift);
                length++;
            }
        }

        boolean beginReading(int mostBytes) {
            at = 0;
            fault = 0;
            faultPlace = NONE;
            return length <= mostBytes || failAt(TOO_MANY, mostBytes);
        }

        int here() {
            return at >= 0 && at < length && at < ROOM ? bytes[at] & 255 : END;
        }

        int behind() {
            int next = at + 1;
            return next >= 0 && next < length && next < ROOM ? bytes[next] & 255 : END;
        }

        void skipBlanks() {
            while (at < length && here() == ' ') {
                at++;
            }
        }

        boolean isNext(int sign) {
            skipBlanks();
            return here() == sign;
        }

        boolean pass(int sign) {
            if (!isNext(sign)) {
                return false;
            }
            at++;
            return true;
        }

        boolean require(int sign) {
            return pass(sign) || fail(WRONG_BYTE);
        }

        boolean requireEnd() {
            return isNext(END) || fail(WRONG_BYTE);
        }

        boolean requireHere(int sign) {
            if (here() != sign) {
                return fail(WRONG_BYTE);
            }
            at++;
            return true;
        }

        boolean fail(int kind) {
            return failAt(kind, at);
        }

        /** Always false, so that a reading method can end with it. */
        boolean failAt(int kind, int placeOfFault) {
            fault = kind;
            faultPlace = placeOfFault;
            return false;
        }

        /** The caller has seen that a sign of a word stands here. */
        boolean readWord() {
            long code = 0;
            int number = 0;
            int signs = 0;
            while (signs < Term.MOST_SIGNS && Term.valueOf(here()) > 0) {
                int value = Term.valueOf(here());
                code = code * Term.BASE + value;
                number = Term.numberWith(number, value);
                at++;
                signs++;
            }
            if (Term.valueOf(here()) > 0) {
                return fail(WRONG_BYTE);
            }
            wordCode = code * Term.codesOfEnds(signs);
            wordLength = signs;
            wordNumber = number;
            return true;
        }
    }

    /**
     * A word, a BEGINNING or a [ ] of numbers: what a word of an object must be, as a span.
     * A word's code is its signs as digits to the base 37, filled up with 0s to 12 digits: it fits a
     * long, codes are in the ORDER of words, and words with like beginnings are neighbours.
     */
    private static final class Term {
        static final int WORD = 0, BEGINNING = 1, NUMBERS = 2;
        static final int BASE = 37;
        static final int MOST_SIGNS = 12;
        static final int NO_NUMBER = -1;
        /** A [ ] ends at 9999, so greater numbers need not be told from one another. */
        private static final int GREAT_NUMBER = 10000;

        final int kind;
        final long low;
        final long high;
        final int length;

        Term(int kind, long low, long high, int length) {
            this.kind = kind;
            this.low = low;
            this.high = high;
            this.length = length;
        }

        /** 1 .. 36 in the ORDER of signs; 0 of what is no sign of a word. */
        static int valueOf(int sign) {
            if (sign >= '0' && sign <= '9') {
                return sign - '0' + 1;
            }
            return sign >= 'a' && sign <= 'z' ? sign - 'a' + 11 : 0;
        }

        /** The number of a word's signs with one sign more; NO_NUMBER, if one is no digit. */
        static int numberWith(int number, int value) {
            if (number == NO_NUMBER || value > 10) {
                return NO_NUMBER;
            }
            return Math.min(number * 10 + value - 1, GREAT_NUMBER);
        }

        /** How many codes begin with the same so many signs. */
        static long codesOfEnds(int signs) {
            long codes = 1;
            for (int i = signs; i < MOST_SIGNS; i++) {
                codes *= BASE;
            }
            return codes;
        }

        int weight() {
            return (kind == BEGINNING ? 40 : 24) - length;
        }

        int signAt(int i) {
            int value = (int) (low / codesOfEnds(i + 1) % BASE);
            return value <= 10 ? '0' + value - 1 : 'a' + value - 11;
        }

        boolean isSame(Term other) {
            return low == other.low && kind == other.kind;
        }

        boolean isBefore(Term other) {
            return low < other.low || low == other.low && kind < other.kind;
        }

        boolean fits(Item item, int word) {
            long value = kind == NUMBERS ? item.numberOf(word) : item.codeOf(word);
            return low <= value && value <= high;
        }

        static int costOf(Term[] terms, long bits) {
            if (bits == ALL) {
                return COST_OF_ALL;
            }
            int cost = 0;
            for (int i = 0; i < terms.length; i++) {
                if ((bits >>> i & 1) == 1 && terms[i] != null) {
                    cost += terms[i].weight();
                }
            }
            return cost;
        }
    }

    /** A part of a query's tree; the reader lets brackets be 12 deep, so no tree has more than some 40 levels. */
    private abstract static class Part {
        Part next;

        abstract boolean holds(Item item, int unit);

        /** Marks the words that are SHOWN; called only where it holds. */
        abstract void mark(Item item, int unit, boolean[] marks);

        /** What is NEEDED, as bits of terms, or ALL. */
        abstract long bitsNeeded(Term[] terms, boolean turned);
    }

    /**
     * # n ( ), and with it | (one at least), & (all) and * (none at least, of none): the document's
     * rules for these give the same as its rule for #.
     */
    private static final class AtLeast extends Part {
        private static final int TAKEN = -1;

        int least;
        int size;
        private Part first;
        private Part last;

        AtLeast(int least) {
            this.least = least;
        }

        void add(Part part) {
            if (last == null) {
                first = part;
            } else {
                last.next = part;
            }
            last = part;
            size++;
        }

        boolean holds(Item item, int unit) {
            int holding = 0;
            for (Part part = first; part != null && holding < least; part = part.next) {
                if (part.holds(item, unit)) {
                    holding++;
                }
            }
            return holding >= least;
        }

        void mark(Item item, int unit, boolean[] marks) {
            for (Part part = first; part != null; part = part.next) {
                if (part.holds(item, unit)) {
                    part.mark(item, unit, marks);
                }
            }
        }

        long bitsNeeded(Term[] terms, boolean turned) {
            int must = turned ? size - least + 1 : least;
            if (must <= 0) {
                return ALL;
            }
            if (must > size) {
                return 0;
            }
            return unionOfCheapest(terms, turned, size - must + 1);
        }

        private long unionOfCheapest(Term[] terms, boolean turned, int howMany) {
            long[] sets = new long[size];
            int[] costs = new int[size];
            int i = 0;
            for (Part part = first; part != null && i < size; part = part.next) {
                sets[i] = part.bitsNeeded(terms, turned);
                costs[i] = Term.costOf(terms, sets[i]);
                i++;
            }
            long union = 0;
            for (int taken = 0; taken < howMany; taken++) {
                int cheapest = cheapestOf(costs);
                if (cheapest >= 0) {
                    union |= sets[cheapest];
                    costs[cheapest] = TAKEN;
                }
            }
            return union;
        }

        private static int cheapestOf(int[] costs) {
            int cheapest = -1;
            for (int i = 0; i < costs.length; i++) {
                if (costs[i] != TAKEN && (cheapest < 0 || costs[i] < costs[cheapest])) {
                    cheapest = i;
                }
            }
            return cheapest;
        }
    }

    /** ! */
    private static final class Not extends Part {
        private final Part inner;

        Not(Part inner) {
            this.inner = inner;
        }

        boolean holds(Item item, int unit) {
            return !inner.holds(item, unit);
        }

        void mark(Item item, int unit, boolean[] marks) {
        }

        long bitsNeeded(Term[] terms, boolean turned) {
            return inner.bitsNeeded(terms, !turned);
        }
    }

    /** FIELD { } */
    private static final class Within extends Part {
        private final int field;
        private final Part inner;

        Within(int field, Part inner) {
            this.field = field;
            this.inner = inner;
        }

        boolean holds(Item item, int unit) {
            for (int u = unit + 1; u < item.units; u++) {
                if (item.isPart(u, unit, field) && inner.holds(item, u)) {
                    return true;
                }
            }
            return false;
        }

        void mark(Item item, int unit, boolean[] marks) {
            for (int u = unit + 1; u < item.units; u++) {
                if (item.isPart(u, unit, field) && inner.holds(item, u)) {
                    inner.mark(item, u, marks);
                }
            }
        }

        long bitsNeeded(Term[] terms, boolean turned) {
            return turned ? ALL : inner.bitsNeeded(terms, false);
        }
    }

    /** A leaf: terms that must stand in one row, in order and near one another; all but a " " have one term. */
    private static final class Leaf extends Part {
        private final int field;
        private final Term[] terms;
        /** How far the last place may be from the first. */
        private final int reach;
        /** The bit of the term that is NEEDED, or NO_BIT. */
        private final int bit;
        /** The earliest places of the terms from some first place on. */
        private final int[] earliest;

        Leaf(int field, Term[] terms, int slack, int bit) {
            this.field = field;
            this.terms = terms;
            this.reach = terms.length - 1 + slack;
            this.bit = bit;
            this.earliest = new int[terms.length];
        }

        boolean holds(Item item, int unit) {
            for (int f = 0; f < FIELDS; f++) {
                if (asks(f) && holdsInRow(item, item.rowStart(unit, f), item.rowEnd(unit, f))) {
                    return true;
                }
            }
            return false;
        }

        void mark(Item item, int unit, boolean[] marks) {
            for (int f = 0; f < FIELDS; f++) {
                if (asks(f)) {
                    markRow(item, item.rowStart(unit, f), item.rowEnd(unit, f), marks);
                }
            }
        }

        long bitsNeeded(Term[] all, boolean turned) {
            return turned || bit == NO_BIT ? ALL : 1L << bit;
        }

        private boolean asks(int f) {
            return field == ANY_FIELD || field == f;
        }

        private boolean holdsInRow(Item item, int from, int to) {
            for (int start = from; start < to; start++) {
                if (findFrom(item, start, to)) {
                    return true;
                }
            }
            return false;
        }

        private void markRow(Item item, int from, int to, boolean[] marks) {
            for (int start = from; start < to; start++) {
                if (findFrom(item, start, to)) {
                    markFrom(item, start, to, marks);
                }
            }
        }

        /** Whether places begin at start: to take each term as early as it comes leaves most room for the others. */
        private boolean findFrom(Item item, int start, int to) {
            int found = 0;
            int end = Math.min(to, start + reach + 1);
            for (int p = start; p < end && found < terms.length; p++) {
                if (terms[found].fits(item, item.wordAt(p))) {
                    earliest[found] = p;
                    found++;
                } else if (found == 0) {
                    return false;
                }
            }
            return found == terms.length;
        }

        /**
         * From the last term down: a word that fits is at some places, if it is behind the earliest
         * place of the term before it and ahead of the latest place of the term behind it.
         */
        private void markFrom(Item item, int start, int to, boolean[] marks) {
            int bound = Math.min(to, start + reach + 1);
            for (int t = terms.length - 1; t > 0; t--) {
                int latest = start;
                for (int p = bound - 1; p > earliest[t - 1]; p--) {
                    if (terms[t].fits(item, item.wordAt(p))) {
                        markWord(item.wordAt(p), marks);
                        latest = Math.max(latest, p);
                    }
                }
                bound = latest;
            }
            markWord(item.wordAt(start), marks);
        }

        private static void markWord(int word, boolean[] marks) {
            if (word >= 0 && word < marks.length) {
                marks[word] = true;
            }
        }
    }

    /** A saved query, with what is NEEDED in ORDER. */
    private static final class Query {
        final int serial;
        final int leaves;
        final Part tree;
        final boolean needless;
        final int cost;
        final Term[] terms;

        Query(int serial, int leaves, Part tree, Term[] known, long bits) {
            this.serial = serial;
            this.leaves = leaves;
            this.tree = tree;
            this.needless = bits == ALL;
            this.cost = Term.costOf(known, bits);
            this.terms = inOrder(known, needless ? 0 : bits);
        }

        private static Term[] inOrder(Term[] known, long bits) {
            Term[] ordered = new Term[Long.bitCount(bits)];
            int filled = 0;
            for (int i = 0; i < known.length; i++) {
                if ((bits >>> i & 1) == 1 && known[i] != null && filled < ordered.length) {
                    insert(ordered, filled, known[i]);
                    filled++;
                }
            }
            return ordered;
        }

        private static void insert(Term[] ordered, int filled, Term term) {
            int to = filled;
            while (to > 0 && term.isBefore(ordered[to - 1])) {
                ordered[to] = ordered[to - 1];
                to--;
            }
            ordered[to] = term;
        }

        Term termAt(int k) {
            return k < 0 || k >= terms.length ? null : terms[k];
        }

        boolean isCandidateFor(Item item) {
            if (needless) {
                return true;
            }
            for (int k = 0; k < terms.length; k++) {
                if (item.hasWordOf(terms[k])) {
                    return true;
                }
            }
            return false;
        }
    }

    /** Reads the tape to a query. A null answer of its methods means that the tape has a fault. */
    private static final class QueryReader {
        private static final int MOST_BYTES = 300;
        private static final int MOST_DEEP = 12;
        private static final int MOST_COUNTED = 20;
        private static final int MOST_TOGETHER = 6;
        private static final int MOST_DIGITS = 4;

        private final Tape tape;
        /** The different terms that leaves could need; a set of them is a long of bits. */
        private final Term[] known = new Term[MOST_LEAVES];
        private int knownCount;
        private int leaves;
        private final Term[] together = new Term[MOST_TOGETHER];

        QueryReader(Tape tape) {
            this.tape = tape;
        }

        Query readQuery(int serial) {
            knownCount = 0;
            leaves = 0;
            if (!tape.beginReading(MOST_BYTES)) {
                return null;
            }
            Part tree = readEither(0);
            if (tree == null || !tape.requireEnd()) {
                return null;
            }
            return new Query(serial, leaves, tree, known, tree.bitsNeeded(known, false));
        }

        private Part readEither(int depth) {
            Part first = readBoth(depth);
            if (first == null || !tape.isNext('|')) {
                return first;
            }
            AtLeast any = new AtLeast(1);
            any.add(first);
            for (int parts = 1; parts <= MOST_LEAVES && tape.pass('|'); parts++) {
                Part more = readBoth(depth);
                if (more == null) {
                    return null;
                }
                any.add(more);
            }
            return any;
        }

        private Part readBoth(int depth) {
            Part first = readOne(depth);
            if (first == null || !tape.isNext('&')) {
                return first;
            }
            AtLeast all = new AtLeast(1);
            all.add(first);
            for (int parts = 1; parts <= MOST_LEAVES && tape.pass('&'); parts++) {
                Part more = readOne(depth);
                if (more == null) {
                    return null;
                }
                all.add(more);
            }
            all.least = all.size;
            return all;
        }

        private Part readOne(int depth) {
            if (depth > MOST_DEEP) {
                tape.fail(TOO_MANY);
                return null;
            }
            if (!tape.pass('!')) {
                return readBase(depth);
            }
            Part inner = readOne(depth + 1);
            return inner == null ? null : new Not(inner);
        }

        private Part readBase(int depth) {
            if (tape.pass('(')) {
                return readUpTo(')', depth + 1);
            }
            if (tape.pass('#')) {
                return readCounted(depth + 1);
            }
            if (tape.here() == '*') {
                return readEverything();
            }
            int field = fieldHere();
            if (field == ANY_FIELD) {
                return readLeaf(ANY_FIELD);
            }
            boolean opens = tape.behind() == '{';
            tape.at += 2;
            if (opens) {
                Part inner = readUpTo('}', depth + 1);
                return inner == null ? null : new Within(field, inner);
            }
            tape.skipBlanks();
            return readLeaf(field);
        }

        /** A letter a .. d is a FIELD only with : or { right behind it; else it begins a word. */
        private int fieldHere() {
            int letter = tape.here();
            boolean isTold = tape.behind() == ':' || tape.behind() == '{';
            return isTold && letter >= 'a' && letter < 'a' + FIELDS ? letter - 'a' : ANY_FIELD;
        }

        private Part readUpTo(int close, int depth) {
            Part inner = readEither(depth);
            return inner == null || !tape.require(close) ? null : inner;
        }

        private Part readCounted(int depth) {
            int least = tape.here() - '0';
            if (least < 1 || least > 9) {
                tape.fail(WRONG_BYTE);
                return null;
            }
            tape.at++;
            if (!tape.require('(')) {
                return null;
            }
            AtLeast counted = new AtLeast(least);
            for (int parts = 0; parts < MOST_COUNTED; parts++) {
                Part more = readEither(depth);
                if (more == null) {
                    return null;
                }
                counted.add(more);
                if (!tape.pass(',')) {
                    return tape.require(')') ? counted : null;
                }
            }
            // Only a , behind the last part that may stand leads here.
            tape.failAt(TOO_MANY, tape.at - 1);
            return null;
        }

        private Part readEverything() {
            if (!countLeaf()) {
                return null;
            }
            tape.at++;
            return new AtLeast(0);
        }

        private boolean countLeaf() {
            if (leaves == MOST_LEAVES) {
                return tape.fail(TOO_MANY);
            }
            leaves++;
            return true;
        }

        private Part readLeaf(int field) {
            int sign = tape.here();
            boolean isWord = Term.valueOf(sign) > 0;
            if (!isWord && sign != '"' && sign != '[') {
                tape.fail(WRONG_BYTE);
                return null;
            }
            if (!countLeaf()) {
                return null;
            }
            if (isWord) {
                return readWordLeaf(field);
            }
            return sign == '"' ? readTogether(field) : readNumbers(field);
        }

        private Part readWordLeaf(int field) {
            if (!tape.readWord()) {
                return null;
            }
            boolean isBeginning = tape.here() == '*';
            if (isBeginning) {
                tape.at++;
            }
            Term term = termOfWord(isBeginning ? Term.BEGINNING : Term.WORD);
            Term[] alone = {term};
            return new Leaf(field, alone, 0, bitOf(term));
        }

        private Term termOfWord(int kind) {
            long code = tape.wordCode;
            long others = kind == Term.BEGINNING ? Term.codesOfEnds(tape.wordLength) - 1 : 0;
            return new Term(kind, code, code + others, tape.wordLength);
        }

        /** Each leaf asks for one bit at most, so there is always room for its term. */
        private int bitOf(Term term) {
            if (term == null) {
                return NO_BIT;
            }
            for (int i = 0; i < knownCount; i++) {
                if (term.isSame(known[i])) {
                    return i;
                }
            }
            if (knownCount >= MOST_LEAVES) {
                return NO_BIT;
            }
            known[knownCount] = term;
            knownCount++;
            return knownCount - 1;
        }

        private Part readTogether(int field) {
            tape.at++;
            int words = 0;
            do {
                if (!readTogetherWord(words)) {
                    return null;
                }
                words++;
            } while (words <= MOST_TOGETHER && !tape.pass('"'));
            int slack = readSlack();
            if (slack < 0 || words > MOST_TOGETHER) {
                return null;
            }
            Term[] row = new Term[words];
            for (int w = 0; w < words && w < MOST_TOGETHER; w++) {
                row[w] = together[w];
            }
            return new Leaf(field, row, slack, bitOf(lightestOf(row)));
        }

        /** Reads word number w of a " " into the row of those that stand together. */
        private boolean readTogetherWord(int w) {
            tape.skipBlanks();
            if (Term.valueOf(tape.here()) == 0) {
                return tape.fail(WRONG_BYTE);
            }
            if (w >= MOST_TOGETHER) {
                return tape.fail(TOO_MANY);
            }
            if (!tape.readWord()) {
                return false;
            }
            together[w] = termOfWord(Term.WORD);
            return true;
        }

        private static Term lightestOf(Term[] row) {
            Term lightest = null;
            for (Term term : row) {
                if (lightest == null || term.weight() < lightest.weight()) {
                    lightest = term;
                }
            }
            return lightest;
        }

        /** Below 0: a fault. */
        private int readSlack() {
            if (tape.here() != '~') {
                return 0;
            }
            tape.at++;
            return readDigit();
        }

        private int readDigit() {
            int digit = tape.here() - '0';
            if (digit < 0 || digit > 9) {
                tape.fail(WRONG_BYTE);
                return -1;
            }
            tape.at++;
            return digit;
        }

        private Part readNumbers(int field) {
            tape.at++;
            int low = readNumber();
            if (low < 0 || !tape.requireHere('.') || !tape.requireHere('.')) {
                return null;
            }
            int second = tape.at;
            int high = readNumber();
            if (high < 0) {
                return null;
            }
            if (high < low) {
                tape.failAt(WRONG_ORDER, second);
                return null;
            }
            if (!tape.requireHere(']')) {
                return null;
            }
            Term[] alone = {new Term(Term.NUMBERS, low, high, 0)};
            return new Leaf(field, alone, 0, NO_BIT);
        }

        /** Below 0: a fault. */
        private int readNumber() {
            int number = readDigit();
            int digits = 1;
            while (number >= 0 && digits < MOST_DIGITS && isDigitHere()) {
                number = number * 10 + readDigit();
                digits++;
            }
            if (number >= 0 && isDigitHere()) {
                tape.fail(WRONG_BYTE);
                return -1;
            }
            return number;
        }

        private boolean isDigitHere() {
            return tape.here() >= '0' && tape.here() <= '9';
        }
    }

    /** Reads the tape to an object. A false answer of its methods means that the tape has a fault. */
    private static final class ItemReader {
        private static final int MOST_BYTES = 600;
        private static final int MOST_AROUND = 4;

        private final Tape tape;
        final long[] codes = new long[MOST_WORDS];
        final int[] numbers = new int[MOST_WORDS];
        final int[] spots = new int[MOST_WORDS];
        /** For each word 4 times its UNIT, and its FIELD. */
        final int[] rows = new int[MOST_WORDS];
        int words;
        final int[] around = new int[MOST_UNITS];
        final int[] partFields = new int[MOST_UNITS];
        int units;

        ItemReader(Tape tape) {
            this.tape = tape;
        }

        Item readItem(int version) {
            words = 0;
            units = 0;
            if (!tape.beginReading(MOST_BYTES)) {
                return null;
            }
            addUnit(NONE, NONE);
            if (!readUnit(0, 0) || !tape.requireEnd()) {
                return null;
            }
            return new Item(this, version);
        }

        private void addUnit(int unitAround, int field) {
            if (units < MOST_UNITS) {
                around[units] = unitAround;
                partFields[units] = field;
                units++;
            }
        }

        /** Up to what cannot begin a part of it: the caller says whether that may stand there. */
        private boolean readUnit(int unit, int depth) {
            tape.skipBlanks();
            for (int told = 0; told < MOST_BYTES && isFieldHere(); told++) {
                int field = tape.here() - 'a';
                tape.at++;
                if (!readTold(unit, field, depth)) {
                    return false;
                }
                tape.skipBlanks();
            }
            return true;
        }

        private boolean isFieldHere() {
            return tape.here() >= 'a' && tape.here() < 'a' + FIELDS;
        }

        private boolean readTold(int unit, int field, int depth) {
            if (tape.here() == ':') {
                tape.at++;
                return readRow(unit * FIELDS + field);
            }
            if (tape.here() != '{') {
                return tape.fail(WRONG_BYTE);
            }
            if (units >= MOST_UNITS || depth >= MOST_AROUND) {
                return tape.fail(TOO_MANY);
            }
            tape.at++;
            addUnit(unit, field);
            return readUnit(units - 1, depth + 1) && tape.require('}');
        }

        private boolean readRow(int row) {
            tape.skipBlanks();
            for (int more = 0; more <= MOST_WORDS && Term.valueOf(tape.here()) > 0; more++) {
                if (words >= MOST_WORDS) {
                    return tape.fail(TOO_MANY);
                }
                int spot = tape.at;
                if (!tape.readWord()) {
                    return false;
                }
                addWord(row, spot);
                tape.skipBlanks();
            }
            return tape.require(';');
        }

        private void addWord(int row, int spot) {
            if (words < MOST_WORDS) {
                codes[words] = tape.wordCode;
                numbers[words] = tape.wordNumber;
                spots[words] = spot;
                rows[words] = row;
                words++;
            }
        }
    }

    /** A told object: its words as they stand in the text, and for each row of each UNIT which of them it has. */
    private static final class Item {
        final int version;
        final int units;
        final int words;
        final int different;
        final int[] around;
        final int[] partFields;
        final int[] spots;
        private final long[] codes;
        private final int[] numbers;
        /** The different codes, rising. */
        private final long[] sortedCodes;
        /** Words by rows; row r has those from starts[r] to starts[r + 1]. */
        private final int[] wordsByRow;
        private final int[] starts;

        Item(ItemReader read, int version) {
            this.version = version;
            units = read.units;
            words = read.words;
            around = Arrays.copyOf(read.around, units);
            partFields = Arrays.copyOf(read.partFields, units);
            spots = Arrays.copyOf(read.spots, words);
            codes = Arrays.copyOf(read.codes, words);
            numbers = Arrays.copyOf(read.numbers, words);
            sortedCodes = new long[words];
            different = sortDifferent(codes, sortedCodes);
            starts = startsOf(read.rows, words, units * FIELDS);
            wordsByRow = wordsInRows(read.rows, words, starts);
        }

        private static int sortDifferent(long[] codes, long[] sorted) {
            int filled = 0;
            for (int i = 0; i < codes.length && filled < sorted.length; i++) {
                int to = firstNotBelow(sorted, filled, codes[i]);
                if (to == filled || sorted[to] != codes[i]) {
                    System.arraycopy(sorted, to, sorted, to + 1, filled - to);
                    sorted[to] = codes[i];
                    filled++;
                }
            }
            return filled;
        }

        private static int firstNotBelow(long[] sorted, int filled, long code) {
            int from = 0;
            int to = filled;
            while (from < to) {
                int middle = (from + to) >>> 1;
                if (sorted[middle] < code) {
                    from = middle + 1;
                } else {
                    to = middle;
                }
            }
            return from;
        }

        private static int[] startsOf(int[] rows, int words, int rowCount) {
            int[] starts = new int[rowCount + 1];
            for (int word = 0; word < words; word++) {
                int row = rows[word];
                if (row >= 0 && row < rowCount) {
                    starts[row + 1]++;
                }
            }
            for (int row = 0; row < rowCount; row++) {
                starts[row + 1] += starts[row];
            }
            return starts;
        }

        private static int[] wordsInRows(int[] rows, int words, int[] starts) {
            int[] free = Arrays.copyOf(starts, starts.length);
            int[] byRow = new int[words];
            for (int word = 0; word < words; word++) {
                int row = rows[word];
                if (row >= 0 && row < free.length && free[row] < words) {
                    byRow[free[row]] = word;
                    free[row]++;
                }
            }
            return byRow;
        }

        private int startAt(int row) {
            return row < 0 || row >= starts.length ? words : starts[row];
        }

        int rowStart(int unit, int field) {
            return startAt(unit * FIELDS + field);
        }

        int rowEnd(int unit, int field) {
            return startAt(unit * FIELDS + field + 1);
        }

        int wordAt(int slot) {
            return slot < 0 || slot >= words ? -1 : wordsByRow[slot];
        }

        long codeOf(int word) {
            return word < 0 || word >= words ? -1 : codes[word];
        }

        int numberOf(int word) {
            return word < 0 || word >= words ? Term.NO_NUMBER : numbers[word];
        }

        boolean isPart(int u, int unit, int field) {
            return u >= 0 && u < units && around[u] == unit && partFields[u] == field;
        }

        boolean hasWordOf(Term term) {
            int at = firstNotBelow(sortedCodes, different, term.low);
            return at < different && sortedCodes[at] <= term.high;
        }
    }
}
