/** The edges of promises 4 to 7 and 10 to 13: numbers, keys, SERIALS, VERSIONS, FULL, BAD, NONE, and the tape. */
final class EdgeStoreTest {
    private static final int BAD = PercolateSets.BAD, NONE = PercolateSets.NONE, FULL = PercolateSets.FULL;
    private static final Check check = new Check("EdgeStoreTest");
    private static final int[] NO_QUERY = {-1, 40, 41, 100, Integer.MIN_VALUE, Integer.MAX_VALUE};
    private static final int[] NO_KEY = {-1, 12, 13, 100, Integer.MIN_VALUE, Integer.MAX_VALUE};

    public static void main(String[] args) {
        fortyQueries();
        fullIsBehindFaults();
        fullChangesNothing();
        leastFreeNumber();
        serials();
        changeOfEachNumber();
        changeOfNone();
        changeWithAFault();
        dropOfEachNumber();
        dropOfNone();
        tapeIsEmptyBehind();
        tapeStaysBehindBad();
        placeOfNoneYet();
        placeOfTheLatest();
        placeStaysBehindBad();
        placeStaysBehindOthers();
        twelveKeys();
        noKey();
        insteadOfTheFormer();
        objectWithAFault();
        versions();
        forgetting();
        whatOfAnObject();
        whatOfAUnit();
        check.end();
    }

    private static PercolateSets full() {
        PercolateSets sets = new PercolateSets();
        for (int q = 0; q < 40; q++) {
            check.due("save " + q, Check.save(sets, "w" + q), q);
        }
        return sets;
    }

    /** "QUERIES have numbers 0 .. 39"; "FULL: 40" */
    private static void fortyQueries() {
        PercolateSets sets = full();
        check.due("queries", sets.count(0), 40);
        check.text("the first", Check.neededOf(sets, 0), "w0");
        check.text("the last", Check.neededOf(sets, 39), "w39");
        check.due("the 41st", Check.save(sets, "w40"), FULL);
        check.due("the 41st again", Check.save(sets, "w40"), FULL);
        check.due("queries", sets.count(0), 40);
        check.due("query(40, 0)", sets.query(40, 0), BAD);
    }

    /** "FULL: 40 (behind FAULTS; place() is NONE then)" */
    private static void fullIsBehindFaults() {
        PercolateSets sets = full();
        check.due("a FAULT 1", Check.save(sets, "w &"), -11);
        check.due("its place", sets.place(), 3);
        check.due("FULL", Check.save(sets, "w"), FULL);
        check.due("place then", sets.place(), NONE);
        check.due("a FAULT 2", Check.save(sets, Check.times("!", 13)), -12);
        check.due("its place", sets.place(), 13);
        check.due("FULL", Check.save(sets, "w"), FULL);
        check.due("place then", sets.place(), NONE);
        check.due("a FAULT 3", Check.save(sets, "[1..0]"), -13);
        check.due("its place", sets.place(), 4);
        check.due("a FAULT of an empty tape", sets.save(), -11);
        check.due("its place", sets.place(), 0);
    }

    private static void fullChangesNothing() {
        PercolateSets sets = full();
        Check.save(sets, "more");
        check.due("the tape is empty", sets.count(8), 0);
        check.due("the latest SERIAL", sets.count(9), 40);
        check.due("different ones", sets.count(7), 40);
        check.text("the first", Check.neededOf(sets, 0), "w0");
        check.text("the last", Check.neededOf(sets, 39), "w39");
        check.due("change", Check.change(sets, 39, "more"), 41);
        check.due("still FULL", Check.save(sets, "more"), FULL);
        check.due("drop(39)", sets.drop(39), 1);
        check.due("room again", Check.save(sets, "more"), 39);
        check.due("its SERIAL", sets.query(39, 0), 42);
        check.due("FULL again", Check.save(sets, "more"), FULL);
    }

    /** "the least free one is given" */
    private static void leastFreeNumber() {
        PercolateSets sets = full();
        int[] dropped = {39, 0, 17, 18, 5};
        int[] given = {0, 5, 17, 18, 39};
        for (int q : dropped) {
            check.due("drop(" + q + ")", sets.drop(q), 1);
        }
        for (int i = 0; i < given.length; i++) {
            check.due("save", Check.save(sets, "n" + i), given[i]);
            check.due("its SERIAL", sets.query(given[i], 0), 41 + i);
        }
        check.due("save", Check.save(sets, "x"), FULL);
    }

    /** "each has a SERIAL: of all SAVED and CHANGED ones 1, 2, .. as they came" */
    private static void serials() {
        PercolateSets sets = new PercolateSets();
        check.due("none yet", sets.count(9), 0);
        check.due("save", Check.save(sets, "a"), 0);
        check.due("SERIAL", sets.query(0, 0), 1);
        check.due("latest", sets.count(9), 1);
        check.due("a FAULT", Check.save(sets, "?"), -11);
        check.due("latest", sets.count(9), 1);
        check.due("save", Check.save(sets, "b"), 1);
        check.due("SERIAL", sets.query(1, 0), 2);
        check.due("change answers it", Check.change(sets, 0, "c"), 3);
        check.due("SERIAL", sets.query(0, 0), 3);
        check.due("the other's", sets.query(1, 0), 2);
        check.due("change to like text", Check.change(sets, 0, "c"), 4);
        check.due("a FAULT", Check.change(sets, 0, "?"), -11);
        check.due("SERIAL stays", sets.query(0, 0), 4);
        check.due("BAD", Check.change(sets, 2, "c"), BAD);
        sets.drop(0);
        check.due("latest stays", sets.count(9), 4);
        check.due("the tape that was BAD is no OBJECT", sets.object(0), -11);
        check.due("an OBJECT has none", sets.object(0), 1);
        check.due("latest stays", sets.count(9), 4);
        check.due("save", Check.save(sets, "d"), 0);
        check.due("SERIAL", sets.query(0, 0), 5);
    }

    private static void changeOfEachNumber() {
        PercolateSets sets = full();
        for (int q = 0; q < 40; q++) {
            check.due("change(" + q + ")", Check.change(sets, q, "c" + q), 41 + q);
        }
        for (int q = 0; q < 40; q += 13) {
            check.text("needed of " + q, Check.neededOf(sets, q), "c" + q);
            check.due("SERIAL of " + q, sets.query(q, 0), 41 + q);
        }
    }

    /** change: "BAD: none such" */
    private static void changeOfNone() {
        PercolateSets sets = new PercolateSets();
        Check.save(sets, "a");
        Check.save(sets, "b");
        sets.drop(0);
        Check.tell(sets, "c");
        for (int q : NO_QUERY) {
            check.due("change(" + q + ")", sets.change(q), BAD);
        }
        check.due("one that went", sets.change(0), BAD);
        check.due("one that never was", sets.change(2), BAD);
        check.due("the latest SERIAL", sets.count(9), 2);
        check.due("the tape stays", sets.count(8), 1);
        check.due("one that is", sets.change(1), 3);
        check.due("the tape is empty", sets.count(8), 0);
    }

    /** change: "- 10 less its FAULT (the former one stays)" */
    private static void changeWithAFault() {
        PercolateSets sets = new PercolateSets();
        Check.save(sets, "x | y");
        Check.object(sets, 0, "a: x;");
        String[] faults = {"x |", "\"a b c d e f g\"", "[2..1]", Check.times(" ", 301)};
        int[] answers = {-11, -12, -13, -12};
        int[] places = {3, 13, 4, 300};
        for (int i = 0; i < faults.length; i++) {
            check.due("change", Check.change(sets, 0, faults[i]), answers[i]);
            check.due("place", sets.place(), places[i]);
            check.text("needed", Check.neededOf(sets, 0), "x y");
            check.due("SERIAL", sets.query(0, 0), 1);
            check.due("LEAVES", sets.query(0, 3), 2);
            check.due("COST", sets.query(0, 2), 46);
            check.due("it matches as before", sets.match(0, 0), 1);
            check.text("it shows as before", Check.shownOf(sets, 0, 0), "3");
        }
    }

    private static void dropOfEachNumber() {
        PercolateSets sets = full();
        for (int q = 39; q >= 0; q--) {
            check.due("drop(" + q + ")", sets.drop(q), 1);
            check.due("drop(" + q + ") again", sets.drop(q), BAD);
            check.due("query(" + q + ", 0)", sets.query(q, 0), BAD);
            check.due("queries", sets.count(0), q);
        }
        check.due("save", Check.save(sets, "again"), 0);
    }

    /** drop: "BAD: none such" */
    private static void dropOfNone() {
        PercolateSets sets = new PercolateSets();
        Check.save(sets, "a");
        for (int q : NO_QUERY) {
            check.due("drop(" + q + ")", sets.drop(q), BAD);
        }
        check.due("drop(1)", sets.drop(1), BAD);
        check.due("drop(39)", sets.drop(39), BAD);
        check.due("queries", sets.count(0), 1);
        check.due("drop(0)", sets.drop(0), 1);
        check.due("drop(0)", sets.drop(0), BAD);
    }

    /** "the tape is empty behind save(), change(), object(), whatever they answer (but BAD)" */
    private static void tapeIsEmptyBehind() {
        PercolateSets sets = full();
        int bytes = Check.tell(sets, "x");
        check.due("bytes", bytes, 1);
        check.due("save: FULL", sets.save(), FULL);
        check.due("tape", sets.count(8), 0);
        check.due("save of the empty tape", sets.save(), -11);
        Check.tell(sets, "?");
        check.due("save: FAULT", sets.save(), -11);
        check.due("tape", sets.count(8), 0);
        Check.tell(sets, Check.times(" ", 700));
        check.due("bytes", sets.count(8), 700);
        check.due("save: too long", sets.save(), -12);
        check.due("tape", sets.count(8), 0);
        Check.tell(sets, "y");
        check.due("change", sets.change(0), 41);
        check.due("tape", sets.count(8), 0);
        Check.tell(sets, "y y");
        check.due("change: FAULT", sets.change(0), -11);
        check.due("tape", sets.count(8), 0);
        Check.tell(sets, "a:x;");
        check.due("object", sets.object(0), 1);
        check.due("tape", sets.count(8), 0);
        Check.tell(sets, "a:x");
        check.due("object: FAULT", sets.object(0), -11);
        check.due("tape", sets.count(8), 0);
        sets.drop(3);
        Check.tell(sets, "z");
        check.due("save", sets.save(), 3);
        check.due("tape", sets.count(8), 0);
        check.due("end", sets.end(0), BAD);
    }

    private static void tapeStaysBehindBad() {
        PercolateSets sets = new PercolateSets();
        Check.tell(sets, "a:x");
        for (int q : NO_QUERY) {
            check.due("change(" + q + ")", sets.change(q), BAD);
            check.due("tape", sets.count(8), 3);
        }
        check.due("change(0)", sets.change(0), BAD);
        for (int key : NO_KEY) {
            check.due("object(" + key + ")", sets.object(key), BAD);
            check.due("tape", sets.count(8), 3);
        }
        sets.drop(0);
        sets.forget(0);
        sets.run(0);
        sets.batch();
        sets.end(20);
        check.due("tape behind others", sets.count(8), 3);
        check.due("save", sets.save(), 0);
        check.text("needed", Check.neededOf(sets, 0), "x");
    }

    /** place: "NONE: it had none, or there was none yet." */
    private static void placeOfNoneYet() {
        PercolateSets sets = new PercolateSets();
        check.due("place", sets.place(), NONE);
        sets.change(0);
        sets.object(-1);
        sets.drop(0);
        sets.run(0);
        check.due("place behind BAD ones", sets.place(), NONE);
        Check.tell(sets, "?");
        check.due("place behind feed", sets.place(), NONE);
        sets.save();
        check.due("place of a FAULT at 0", sets.place(), 0);
    }

    /** "The place of the FAULT of the latest save(), change(), object() that was not BAD." */
    private static void placeOfTheLatest() {
        PercolateSets sets = new PercolateSets();
        Check.save(sets, "a");
        Check.save(sets, "a ?");
        check.due("of save", sets.place(), 2);
        Check.change(sets, 0, "a &?");
        check.due("of change", sets.place(), 3);
        Check.object(sets, 0, "a:x?");
        check.due("of object", sets.place(), 3);
        Check.object(sets, 0, "a:xyz?");
        check.due("of object", sets.place(), 5);
        Check.object(sets, 0, "a:x;");
        check.due("of a good object", sets.place(), NONE);
        Check.object(sets, 0, "?");
        Check.save(sets, "a");
        check.due("of a good save", sets.place(), NONE);
        Check.object(sets, 0, "?");
        Check.change(sets, 0, "a");
        check.due("of a good change", sets.place(), NONE);
        Check.save(sets, Check.times("a", 301));
        check.due("of a long one", sets.place(), 300);
        Check.object(sets, 0, Check.times("a", 601));
        check.due("of a long one", sets.place(), 600);
    }

    private static void placeStaysBehindBad() {
        PercolateSets sets = new PercolateSets();
        Check.save(sets, "a|?");
        Check.tell(sets, "?");
        sets.change(0);
        check.due("behind a BAD change", sets.place(), 2);
        sets.change(40);
        check.due("behind a BAD change", sets.place(), 2);
        sets.object(12);
        check.due("behind a BAD object", sets.place(), 2);
        sets.object(11);
        check.due("behind an object", sets.place(), 0);
        Check.object(sets, 11, "");
        sets.object(-1);
        check.due("behind a good and a BAD one", sets.place(), NONE);
    }

    private static void placeStaysBehindOthers() {
        PercolateSets sets = new PercolateSets();
        Check.save(sets, "x");
        Check.object(sets, 0, "a:x;");
        Check.save(sets, "x &");
        sets.run(0);
        sets.batch();
        sets.match(0, 0);
        sets.shown(0, 0, -1);
        sets.query(0, 0);
        sets.forget(0);
        sets.drop(0);
        sets.feed(0, 0, 0, 0, 0);
        sets.end(0);
        check.due("place", sets.place(), 3);
        check.due("place again", sets.place(), 3);
    }

    /** "OBJECTS have keys 0 .. 11" */
    private static void twelveKeys() {
        PercolateSets sets = new PercolateSets();
        for (int key = 11; key >= 0; key--) {
            check.due("object(" + key + ")", Check.object(sets, key, "a: k" + key + ";" + Check.times("b{}", key)), key + 1);
            check.due("objects", sets.count(2), 12 - key);
            check.due("its VERSION", sets.about(key, 0), 12 - key);
        }
        for (int key = 0; key < 12; key++) {
            check.due("UNITS", sets.about(key, 1), key + 1);
        }
        for (int key = 0; key < 12; key++) {
            check.due("object(" + key + ") again", Check.object(sets, key, ""), 1);
            check.due("objects", sets.count(2), 12);
            check.due("its VERSION", sets.about(key, 0), 13 + key);
        }
    }

    /** object: "BAD: no key" */
    private static void noKey() {
        PercolateSets sets = new PercolateSets();
        Check.tell(sets, "a:x;");
        for (int key : NO_KEY) {
            check.due("object(" + key + ")", sets.object(key), BAD);
            check.due("forget(" + key + ")", sets.forget(key), BAD);
            check.due("about(" + key + ", 0)", sets.about(key, 0), BAD);
            check.due("unit(" + key + ", 0, 0)", sets.unit(key, 0, 0), BAD);
        }
        check.due("objects", sets.count(2), 0);
        check.due("the latest VERSION", sets.count(10), 0);
        check.due("object(11)", sets.object(11), 1);
        check.due("object(0)", sets.object(0), 1);
        check.due("words of 11", sets.about(11, 2), 1);
        check.due("words of 0", sets.about(0, 2), 0);
    }

    /** object: "The tape is the OBJECT of a key, instead of the one that was there" */
    private static void insteadOfTheFormer() {
        PercolateSets sets = new PercolateSets();
        Check.save(sets, "x");
        Check.save(sets, "y");
        check.due("object", Check.object(sets, 6, "a:x x x; b{ c{} }"), 3);
        check.due("x", sets.match(0, 6), 1);
        check.due("object", Check.object(sets, 6, "d:y;"), 1);
        check.due("no x", sets.match(0, 6), 0);
        check.due("y", sets.match(1, 6), 1);
        check.due("UNITS", sets.about(6, 1), 1);
        check.due("words", sets.about(6, 2), 1);
        check.due("different words", sets.about(6, 3), 1);
        check.due("no UNIT 1", sets.unit(6, 1, 0), BAD);
        check.due("row a", sets.unit(6, 0, 2), 0);
        check.due("row d", sets.unit(6, 0, 5), 1);
        check.due("objects", sets.count(2), 1);
        check.due("VERSION", sets.about(6, 0), 2);
    }

    /** object: "- 10 less its FAULT (the former one stays)" */
    private static void objectWithAFault() {
        PercolateSets sets = new PercolateSets();
        Check.save(sets, "x");
        Check.object(sets, 6, "a:x q; b{}");
        String[] faults = {"d:y", "a{a{a{a{a{}}}}}", Check.times("b{}", 30), Check.times(" ", 601)};
        int[] answers = {-11, -12, -12, -12};
        int[] places = {3, 9, 88, 600};
        for (int i = 0; i < faults.length; i++) {
            check.due("object", Check.object(sets, 6, faults[i]), answers[i]);
            check.due("place", sets.place(), places[i]);
            check.due("VERSION", sets.about(6, 0), 1);
            check.due("UNITS", sets.about(6, 1), 2);
            check.due("words", sets.about(6, 2), 2);
            check.due("it matches as before", sets.match(0, 6), 1);
            check.text("it shows as before", Check.shownOf(sets, 0, 6), "2");
            check.due("under a free key", Check.object(sets, 7, faults[i]), answers[i]);
            check.due("none is there", sets.about(7, 0), BAD);
            check.due("the latest VERSION", sets.count(10), 1);
            check.due("objects", sets.count(2), 1);
        }
    }

    /** "each has a VERSION: of all that were told 1, 2, .. as they came" */
    private static void versions() {
        PercolateSets sets = new PercolateSets();
        check.due("none yet", sets.count(10), 0);
        Check.object(sets, 3, "a:x;");
        Check.object(sets, 0, "a:x;");
        Check.object(sets, 3, "a:x;");
        Check.object(sets, 3, "?");
        Check.object(sets, 12, "a:x;");
        check.due("of 3", sets.about(3, 0), 3);
        check.due("of 0", sets.about(0, 0), 2);
        check.due("latest", sets.count(10), 3);
        sets.forget(3);
        check.due("latest", sets.count(10), 3);
        check.due("the tape that was BAD", sets.object(3), 1);
        check.due("of 3", sets.about(3, 0), 4);
        check.due("its words", sets.about(3, 2), 1);
        Check.save(sets, "x");
        check.due("latest", sets.count(10), 4);
    }

    /** forget: "An OBJECT goes: its VERSION. BAD: none such." */
    private static void forgetting() {
        PercolateSets sets = new PercolateSets();
        for (int key = 0; key < 12; key++) {
            check.due("forget of none", sets.forget(key), BAD);
            Check.object(sets, key, "a:x;");
        }
        for (int key = 0; key < 12; key++) {
            check.due("forget(" + key + ")", sets.forget(key), key + 1);
            check.due("forget(" + key + ") again", sets.forget(key), BAD);
            check.due("about(" + key + ", 0)", sets.about(key, 0), BAD);
            check.due("unit(" + key + ", 0, 0)", sets.unit(key, 0, 0), BAD);
            check.due("run(" + key + ")", sets.run(key), BAD);
            check.due("objects", sets.count(2), 11 - key);
        }
    }

    /** about: "0 its VERSION, 1 UNITS, 2 words, 3 different words. BAD: none such." */
    private static void whatOfAnObject() {
        PercolateSets sets = new PercolateSets();
        Check.object(sets, 0, "");
        StringBuilder different = new StringBuilder("a:");
        for (int i = 0; i < 120; i++) {
            different.append((char) ('a' + i / 10)).append(i % 10).append(' ');
        }
        Check.object(sets, 11, different + ";" + Check.times("c{}", 29));
        Check.object(sets, 5, "a: x 1 01 x; b: x; c{ d: x xx; }");
        int[][] want = {{1, 1, 0, 0}, {2, 30, 120, 120}, {3, 2, 7, 4}};
        int[] keys = {0, 11, 5};
        for (int i = 0; i < keys.length; i++) {
            for (int what = 0; what < 4; what++) {
                check.due("about(" + keys[i] + ", " + what + ")", sets.about(keys[i], what), want[i][what]);
            }
            for (int what : new int[] {-2, -1, 4, 5, Integer.MIN_VALUE, Integer.MAX_VALUE}) {
                check.due("about(" + keys[i] + ", " + what + ")", sets.about(keys[i], what), BAD);
            }
        }
        for (int what = -1; what <= 4; what++) {
            check.due("about(1, " + what + ")", sets.about(1, what), BAD);
        }
    }

    /** unit: "0 the UNIT around it (NONE of 0), 1 its FIELD there (0 .. 3; NONE), 2 .. 5 how many words .. BAD: none such." */
    private static void whatOfAUnit() {
        PercolateSets sets = new PercolateSets();
        Check.object(sets, 2, "d: q; a{ a:x; b:x x; c:x x x; d:x x x x; } d{}");
        int[][] want = {{NONE, NONE, 0, 0, 0, 1}, {0, 0, 1, 2, 3, 4}, {0, 3, 0, 0, 0, 0}};
        int[] noWhat = {-2, -1, 6, 7, Integer.MIN_VALUE, Integer.MIN_VALUE + 1, Integer.MAX_VALUE};
        for (int u = 0; u < 3; u++) {
            for (int what = 0; what < 6; what++) {
                check.due("unit(2, " + u + ", " + what + ")", sets.unit(2, u, what), want[u][what]);
            }
            for (int what : noWhat) {
                check.due("unit(2, " + u + ", " + what + ")", sets.unit(2, u, what), BAD);
            }
        }
        for (int u : new int[] {-1, 3, 29, 30, Integer.MIN_VALUE, Integer.MAX_VALUE}) {
            for (int what = 0; what < 6; what++) {
                check.due("unit(2, " + u + ", " + what + ")", sets.unit(2, u, what), BAD);
            }
        }
        for (int key : new int[] {-1, 0, 1, 3, 11, 12, Integer.MIN_VALUE, Integer.MAX_VALUE}) {
            check.due("unit(" + key + ", 0, 0)", sets.unit(key, 0, 0), BAD);
        }
    }
}
