/** The edges of promises 14 to 17 and 22: run, batch, matched, alert, count. */
final class EdgeRunTest {
    private static final int BAD = PercolateSets.BAD;
    private static final Check check = new Check("EdgeRunTest");

    public static void main(String[] args) {
        runOfEachKey();
        runOfNone();
        badRunLeavesTheLatest();
        runWithoutQueries();
        matchedByRisingNumbers();
        batchOfNothing();
        batchByRisingKeys();
        batchOfAll();
        matchedOfNone();
        matchedStaysWhenTheyGo();
        matchedIsOfTheLatest();
        alertOncePerSerialAndVersion();
        alertForEachObject();
        alertsInTheirOrder();
        hundredAlertsAreKept();
        alertsOfManyRounds();
        toldAlertsAreNotToldAgain();
        whatOfAnAlert();
        alertsStayWhenTheyGo();
        nothingIsToldByOthers();
        countsOfTheLatest();
        countsOfAll();
        countOfNoNumber();
        check.end();
    }

    private static PercolateSets with(String... queries) {
        PercolateSets sets = new PercolateSets();
        for (String query : queries) {
            Check.save(sets, query);
        }
        return sets;
    }

    private static void alert(PercolateSets sets, int k, int... want) {
        for (int what = 0; what < 4; what++) {
            check.due("alert(" + k + ", " + what + ")", sets.alert(k, what), want[what]);
        }
    }

    private static void noAlert(PercolateSets sets, int k) {
        for (int what = 0; what < 4; what++) {
            check.due("alert(" + k + ", " + what + ")", sets.alert(k, what), BAD);
        }
    }

    /** run: "An OBJECT is RUN: how many are MATCHED." */
    private static void runOfEachKey() {
        PercolateSets sets = with("x", "!y");
        for (int key = 0; key < 12; key++) {
            Check.object(sets, key, key % 2 == 0 ? "a: x;" : "a: y;");
        }
        for (int key = 0; key < 12; key++) {
            check.due("run(" + key + ")", sets.run(key), key % 2 == 0 ? 2 : 0);
            check.due("matched(0)", sets.matched(0), key % 2 == 0 ? 100 * key : BAD);
            check.due("matched(1)", sets.matched(1), key % 2 == 0 ? 100 * key + 1 : BAD);
            check.due("matched(2)", sets.matched(2), BAD);
            check.due("CANDIDATES", sets.count(4), key % 2 == 0 ? 2 : 1);
        }
    }

    /** run: "BAD: none such." */
    private static void runOfNone() {
        PercolateSets sets = with("*");
        Check.object(sets, 5, "");
        Check.object(sets, 6, "");
        sets.forget(6);
        for (int key : new int[] {-1, 0, 4, 6, 11, 12, Integer.MIN_VALUE, Integer.MAX_VALUE}) {
            check.due("run(" + key + ")", sets.run(key), BAD);
        }
        check.due("no ALERT", sets.count(3), 0);
        check.due("run(5)", sets.run(5), 1);
    }

    private static void badRunLeavesTheLatest() {
        PercolateSets sets = with("*", "x");
        Check.object(sets, 5, "a: x;");
        sets.run(5);
        check.due("run(4)", sets.run(4), BAD);
        check.due("run(12)", sets.run(12), BAD);
        check.due("matched(0)", sets.matched(0), 500);
        check.due("matched(1)", sets.matched(1), 501);
        check.due("CANDIDATES", sets.count(4), 2);
        check.due("NEEDLESS ones", sets.count(5), 1);
        check.due("MATCHED", sets.count(6), 2);
    }

    private static void runWithoutQueries() {
        PercolateSets sets = new PercolateSets();
        Check.object(sets, 0, "a: x;");
        check.due("run(0)", sets.run(0), 0);
        check.due("batch()", sets.batch(), 0);
        check.due("CANDIDATES", sets.count(4), 0);
        check.due("matched(0)", sets.matched(0), BAD);
    }

    /** "those of them that match are MATCHED, by rising numbers": whatever their SERIALS are. */
    private static void matchedByRisingNumbers() {
        PercolateSets sets = with("x", "y", "x", "x");
        sets.drop(0);
        Check.change(sets, 2, "x*");
        Check.save(sets, "x");
        Check.object(sets, 11, "a: x;");
        check.due("run(11)", sets.run(11), 3);
        check.due("matched(0)", sets.matched(0), 1100);
        check.due("matched(1)", sets.matched(1), 1102);
        check.due("matched(2)", sets.matched(2), 1103);
        check.due("matched(3)", sets.matched(3), BAD);
        alert(sets, 0, 0, 6, 11, 1);
        alert(sets, 1, 2, 5, 11, 1);
        alert(sets, 2, 3, 4, 11, 1);
    }

    private static void batchOfNothing() {
        PercolateSets sets = with("*");
        Check.object(sets, 0, "");
        check.due("run(0)", sets.run(0), 1);
        sets.forget(0);
        check.due("batch()", sets.batch(), 0);
        check.due("matched(0)", sets.matched(0), BAD);
        check.due("CANDIDATES", sets.count(4), 0);
        check.due("NEEDLESS ones", sets.count(5), 0);
        check.due("MATCHED", sets.count(6), 0);
        check.due("ALERTS", sets.count(3), 1);
    }

    /** batch: "All OBJECTS are RUN, by rising keys: how many are MATCHED, all together." */
    private static void batchByRisingKeys() {
        PercolateSets sets = with("x", "y", "*");
        Check.object(sets, 11, "a: x;");
        Check.object(sets, 0, "a: y;");
        Check.object(sets, 6, "a: x y;");
        check.due("batch()", sets.batch(), 7);
        int[] want = {1, 2, 600, 601, 602, 1100, 1102, BAD};
        for (int k = 0; k < want.length; k++) {
            check.due("matched(" + k + ")", sets.matched(k), want[k]);
        }
        check.due("CANDIDATES", sets.count(4), 7);
        check.due("NEEDLESS ones", sets.count(5), 3);
        check.due("MATCHED", sets.count(6), 7);
        alert(sets, 0, 1, 2, 0, 2);
        alert(sets, 6, 2, 3, 11, 1);
        noAlert(sets, 7);
    }

    /** The most: 40 QUERIES for each of 12 OBJECTS. */
    private static void batchOfAll() {
        PercolateSets sets = new PercolateSets();
        for (int q = 0; q < 40; q++) {
            Check.save(sets, "*");
        }
        for (int key = 0; key < 12; key++) {
            sets.object(key);
        }
        check.due("batch()", sets.batch(), 480);
        check.due("matched(0)", sets.matched(0), 0);
        check.due("matched(39)", sets.matched(39), 39);
        check.due("matched(40)", sets.matched(40), 100);
        check.due("matched(479)", sets.matched(479), 1139);
        check.due("matched(480)", sets.matched(480), BAD);
        check.due("CANDIDATES", sets.count(4), 480);
        check.due("NEEDLESS ones", sets.count(5), 480);
        check.due("MATCHED", sets.count(6), 480);
        check.due("ALERTS", sets.count(3), 480);
        noAlert(sets, 379);
        alert(sets, 380, 20, 21, 9, 10);
        alert(sets, 479, 39, 40, 11, 12);
        noAlert(sets, 480);
        check.due("batch() again", sets.batch(), 480);
        check.due("ALERTS", sets.count(3), 480);
    }

    /** matched: "BAD: none such." */
    private static void matchedOfNone() {
        PercolateSets sets = with("*", "*");
        check.due("before a run", sets.matched(0), BAD);
        Check.object(sets, 0, "");
        check.due("before a run", sets.matched(0), BAD);
        sets.run(0);
        check.due("the last", sets.matched(1), 1);
        for (int k : new int[] {-1, -2, 2, 3, 479, 480, Integer.MIN_VALUE, Integer.MAX_VALUE}) {
            check.due("matched(" + k + ")", sets.matched(k), BAD);
        }
    }

    private static void matchedStaysWhenTheyGo() {
        PercolateSets sets = with("x", "x*");
        Check.object(sets, 3, "a: x;");
        sets.run(3);
        sets.drop(0);
        Check.change(sets, 1, "y");
        Check.object(sets, 3, "");
        sets.forget(3);
        Check.save(sets, "z");
        check.due("matched(0)", sets.matched(0), 300);
        check.due("matched(1)", sets.matched(1), 301);
        check.due("CANDIDATES", sets.count(4), 2);
        check.due("MATCHED", sets.count(6), 2);
    }

    /** "Of the latest run(), batch()" */
    private static void matchedIsOfTheLatest() {
        PercolateSets sets = with("x", "y");
        Check.object(sets, 1, "a: x;");
        Check.object(sets, 2, "a: x y;");
        sets.batch();
        check.due("of batch", sets.matched(2), 201);
        sets.run(1);
        check.due("of run(1)", sets.matched(0), 100);
        check.due("of run(1)", sets.matched(1), BAD);
        sets.run(2);
        check.due("of run(2)", sets.matched(0), 200);
        check.due("of run(2)", sets.matched(1), 201);
        check.due("of run(2)", sets.matched(2), BAD);
        sets.batch();
        check.due("of batch", sets.matched(0), 100);
        check.due("of batch", sets.matched(2), 201);
        check.due("of batch", sets.matched(3), BAD);
    }

    /** "each time that one is MATCHED for whose SERIAL and this VERSION no ALERT was told, an ALERT is told" */
    private static void alertOncePerSerialAndVersion() {
        PercolateSets sets = with("x");
        Check.object(sets, 0, "a: x;");
        told(sets, 0, 1);
        told(sets, 0, 1);
        sets.batch();
        check.due("behind batch", sets.count(3), 1);
        Check.change(sets, 0, "x");
        told(sets, 0, 2);
        told(sets, 0, 2);
        Check.object(sets, 0, "a: x;");
        told(sets, 0, 3);
        told(sets, 0, 3);
        Check.change(sets, 0, "x |");
        Check.object(sets, 0, "a: x");
        told(sets, 0, 3);
        sets.drop(0);
        Check.save(sets, "x");
        told(sets, 0, 4);
        sets.forget(0);
        Check.object(sets, 0, "a: x;");
        told(sets, 0, 5);
        told(sets, 0, 5);
        Check.change(sets, 0, "y");
        sets.run(0);
        check.due("not MATCHED", sets.count(3), 5);
        Check.change(sets, 0, "x");
        told(sets, 0, 6);
        alert(sets, 0, 0, 1, 0, 1);
        alert(sets, 1, 0, 2, 0, 1);
        alert(sets, 2, 0, 2, 0, 2);
        alert(sets, 3, 0, 3, 0, 2);
        alert(sets, 4, 0, 3, 0, 3);
        alert(sets, 5, 0, 5, 0, 3);
    }

    private static void told(PercolateSets sets, int key, int want) {
        check.due("run(" + key + ")", sets.run(key), 1);
        check.due("ALERTS told", sets.count(3), want);
    }

    private static void alertForEachObject() {
        PercolateSets sets = with("x", "x");
        Check.object(sets, 0, "a: x;");
        Check.object(sets, 11, "a: x;");
        sets.run(0);
        check.due("of key 0", sets.count(3), 2);
        sets.run(11);
        check.due("of key 11", sets.count(3), 4);
        sets.run(0);
        sets.batch();
        check.due("all were told", sets.count(3), 4);
        Check.object(sets, 11, "a: x;");
        sets.batch();
        check.due("those of key 11 again", sets.count(3), 6);
        Check.change(sets, 1, "x");
        sets.batch();
        check.due("those of query 1 again", sets.count(3), 8);
    }

    /** "an ALERT is told: numbers 0, 1, .." */
    private static void alertsInTheirOrder() {
        PercolateSets sets = with("x", "y", "*");
        Check.object(sets, 4, "a: y;");
        noAlert(sets, 0);
        sets.run(4);
        alert(sets, 0, 1, 2, 4, 1);
        alert(sets, 1, 2, 3, 4, 1);
        noAlert(sets, 2);
        Check.object(sets, 2, "a: x;");
        sets.batch();
        alert(sets, 2, 0, 1, 2, 2);
        alert(sets, 3, 2, 3, 2, 2);
        noAlert(sets, 4);
    }

    /** "the latest 100 are kept" */
    private static void hundredAlertsAreKept() {
        PercolateSets sets = with("*");
        for (int told = 1; told <= 103; told++) {
            sets.object(7);
            sets.run(7);
            check.due("told", sets.count(3), told);
            int first = Math.max(0, told - 100);
            if (told < 3 || told > 98) {
                check.due("the first that is kept", sets.alert(first, 3), first + 1);
                check.due("the one before", sets.alert(first - 1, 3), BAD);
                check.due("the last", sets.alert(told - 1, 3), told);
                check.due("the one behind", sets.alert(told, 3), BAD);
            }
        }
    }

    /** The numbers go on rising: 117 a round, so that the kept ones begin at other places of their row each time. */
    private static void alertsOfManyRounds() {
        PercolateSets sets = new PercolateSets();
        for (int q = 0; q < 39; q++) {
            Check.save(sets, "*");
        }
        for (int key = 0; key < 3; key++) {
            sets.object(key);
        }
        for (int round = 1; round <= 9; round++) {
            sets.batch();
            int told = 117 * round;
            check.due("told", sets.count(3), told);
            check.due("the first that is kept", sets.alert(told - 100, 3), 3 * round - 2);
            check.due("its QUERY", sets.alert(told - 100, 0), 17);
            check.due("its key", sets.alert(told - 100, 2), 0);
            check.due("the one before", sets.alert(told - 101, 0), BAD);
            check.due("the last", sets.alert(told - 1, 3), 3 * round);
            check.due("its QUERY", sets.alert(told - 1, 0), 38);
            check.due("its SERIAL", sets.alert(told - 1, 1), 39);
            check.due("the one behind", sets.alert(told, 0), BAD);
            for (int key = 0; key < 3; key++) {
                sets.object(key);
            }
        }
    }

    /** An ALERT that is not kept any more was told all the same. */
    private static void toldAlertsAreNotToldAgain() {
        PercolateSets sets = with("*");
        sets.object(0);
        sets.run(0);
        for (int i = 0; i < 100; i++) {
            sets.object(1);
            sets.run(1);
        }
        noAlert(sets, 0);
        check.due("told", sets.count(3), 101);
        sets.run(0);
        sets.batch();
        check.due("not told again", sets.count(3), 101);
    }

    /** alert: "0 the QUERY's number, 1 SERIAL, 2 the key, 3 the VERSION. BAD: none such." */
    private static void whatOfAnAlert() {
        PercolateSets sets = with("x", "x", "y");
        Check.change(sets, 2, "z");
        Check.object(sets, 9, "");
        Check.object(sets, 9, "a: z;");
        sets.run(9);
        alert(sets, 0, 2, 4, 9, 2);
        for (int what : new int[] {-2, -1, 4, 5, Integer.MIN_VALUE, Integer.MAX_VALUE}) {
            check.due("alert(0, " + what + ")", sets.alert(0, what), BAD);
        }
        for (int k : new int[] {-100, -2, -1, 1, 2, 100, Integer.MIN_VALUE, Integer.MAX_VALUE}) {
            noAlert(sets, k);
        }
    }

    private static void alertsStayWhenTheyGo() {
        PercolateSets sets = with("x");
        Check.object(sets, 9, "a: x;");
        sets.run(9);
        Check.change(sets, 0, "y");
        Check.object(sets, 9, "");
        alert(sets, 0, 0, 1, 9, 1);
        sets.drop(0);
        sets.forget(9);
        alert(sets, 0, 0, 1, 9, 1);
        check.due("told in all", sets.count(3), 1);
    }

    /** match: "(Nothing is told by it.)" */
    private static void nothingIsToldByOthers() {
        PercolateSets sets = with("x");
        Check.object(sets, 0, "a: x;");
        check.due("match", sets.match(0, 0), 1);
        check.due("candidate", sets.candidate(0, 0), 1);
        check.due("tried", sets.tried(0), 1);
        check.due("shown", sets.shown(0, 0, -1), 1);
        check.due("ALERTS", sets.count(3), 0);
        check.due("CANDIDATES", sets.count(4), 0);
        check.due("MATCHED", sets.count(6), 0);
        check.due("matched(0)", sets.matched(0), BAD);
        check.due("run", sets.run(0), 1);
        check.due("ALERTS", sets.count(3), 1);
    }

    /** count: "4 CANDIDATES of the latest run(), batch(), all together (0), 5 of them NEEDLESS, 6 MATCHED" */
    private static void countsOfTheLatest() {
        PercolateSets sets = with("x & y", "!x", "!y", "z", "!*");
        latest(sets, 0, 0, 0);
        Check.object(sets, 0, "a: x;");
        Check.object(sets, 1, "a: x y z;");
        Check.object(sets, 2, "");
        latest(sets, 0, 0, 0);
        sets.run(0);
        latest(sets, 3, 2, 1);
        sets.run(1);
        latest(sets, 4, 2, 2);
        sets.run(2);
        latest(sets, 2, 2, 2);
        sets.batch();
        latest(sets, 9, 6, 5);
        sets.run(0);
        latest(sets, 3, 2, 1);
        sets.run(3);
        latest(sets, 3, 2, 1);
    }

    private static void latest(PercolateSets sets, int candidates, int needless, int matched) {
        check.due("CANDIDATES", sets.count(4), candidates);
        check.due("NEEDLESS ones", sets.count(5), needless);
        check.due("MATCHED", sets.count(6), matched);
    }

    /** count: each number told, at the greatest that can be. */
    private static void countsOfAll() {
        PercolateSets sets = new PercolateSets();
        for (int q = 0; q < 40; q++) {
            Check.save(sets, q < 10 ? "*" : "w" + q);
        }
        for (int key = 0; key < 12; key++) {
            Check.object(sets, key, "a: w10 w11;");
        }
        sets.batch();
        while (sets.count(8) < 700) {
            sets.feed(0, 0, 0, 0, 0);
        }
        int[] want = {40, 10, 12, 144, 144, 120, 144, 30, 700, 40, 12};
        for (int what = 0; what < want.length; what++) {
            check.due("count(" + what + ")", sets.count(what), want[what]);
        }
    }

    /** count: "BAD: another number." */
    private static void countOfNoNumber() {
        PercolateSets sets = with("x");
        for (int what = 0; what <= 10; what++) {
            check.due("count(" + what + ") is told", sets.count(what) >= 0 ? 1 : 0, 1);
        }
        for (int what : new int[] {-3, -2, -1, 11, 12, 100, Integer.MIN_VALUE, Integer.MAX_VALUE}) {
            check.due("count(" + what + ")", sets.count(what), BAD);
        }
    }
}
