/** Promises 14 to 17 and 22: run, batch, matched, alert, count. */
final class RunTest {
    private static final Check check = new Check("RunTest");

    public static void main(String[] args) {
        runningOne();
        runningAll();
        alertsOnce();
        latestHundred();
        toldStaysToldWhenNotKept();
        mostOfAll();
        counts();
        wrongNumbers();
        check.end();
    }

    private static void alert(PercolateSets sets, int k, int... want) {
        for (int what = 0; what < 4; what++) {
            check.due("alert(" + k + ", " + what + ")", sets.alert(k, what), want[what]);
        }
    }

    private static void runningOne() {
        PercolateSets sets = new PercolateSets();
        String[] queries = {"x", "z", "x & z", "*", "!x", "y | z"};
        for (String query : queries) {
            Check.save(sets, query);
        }
        Check.object(sets, 7, "a: x y;");
        check.due("run(7)", sets.run(7), 3);
        check.due("matched(0)", sets.matched(0), 700);
        check.due("matched(1)", sets.matched(1), 703);
        check.due("matched(2)", sets.matched(2), 705);
        check.due("matched(3)", sets.matched(3), PercolateSets.BAD);
        check.due("candidates", sets.count(4), 5);
        check.due("needless ones", sets.count(5), 2);
        check.due("matched", sets.count(6), 3);
        sets.drop(3);
        check.due("matched stays", sets.matched(1), 703);
        check.due("candidates stay", sets.count(4), 5);
        check.due("run of none", sets.run(6), PercolateSets.BAD);
        check.due("the latest stays", sets.matched(2), 705);
        check.due("its count stays", sets.count(6), 3);
    }

    private static void runningAll() {
        PercolateSets sets = new PercolateSets();
        check.due("batch of nothing", sets.batch(), 0);
        Check.save(sets, "x");
        Check.save(sets, "!y");
        Check.object(sets, 11, "a: x;");
        Check.object(sets, 2, "a: x y;");
        Check.object(sets, 5, "b: y;");
        check.due("batch()", sets.batch(), 3);
        check.due("matched(0)", sets.matched(0), 200);
        check.due("matched(1)", sets.matched(1), 1100);
        check.due("matched(2)", sets.matched(2), 1101);
        check.due("matched(3)", sets.matched(3), PercolateSets.BAD);
        check.due("candidates", sets.count(4), 5);
        check.due("needless ones", sets.count(5), 3);
        check.due("matched", sets.count(6), 3);
        alert(sets, 0, 0, 1, 2, 2);
        alert(sets, 1, 0, 1, 11, 1);
        alert(sets, 2, 1, 2, 11, 1);
        sets.forget(11);
        check.due("batch() again", sets.batch(), 1);
        check.due("matched(1)", sets.matched(1), PercolateSets.BAD);
        check.due("no ALERT more", sets.count(3), 3);
        check.due("run(5)", sets.run(5), 0);
        check.due("matched(0)", sets.matched(0), PercolateSets.BAD);
        check.due("candidates", sets.count(4), 1);
    }

    private static void alertsOnce() {
        PercolateSets sets = new PercolateSets();
        Check.save(sets, "x");
        Check.object(sets, 0, "a: x;");
        check.due("no ALERT", sets.count(3), 0);
        check.due("run", sets.run(0), 1);
        check.due("an ALERT", sets.count(3), 1);
        check.due("run again", sets.run(0), 1);
        check.due("batch", sets.batch(), 1);
        check.due("no ALERT more", sets.count(3), 1);
        check.due("a new VERSION", Check.object(sets, 0, "a: x;"), 1);
        check.due("run", sets.run(0), 1);
        check.due("an ALERT more", sets.count(3), 2);
        check.due("a new SERIAL", Check.change(sets, 0, "x"), 2);
        check.due("run", sets.run(0), 1);
        check.due("an ALERT more", sets.count(3), 3);
        check.due("change with a fault", Check.change(sets, 0, "x&"), -11);
        check.due("object with a fault", Check.object(sets, 0, "x"), -11);
        check.due("run", sets.run(0), 1);
        check.due("no ALERT more", sets.count(3), 3);
        sets.drop(0);
        Check.save(sets, "x");
        sets.run(0);
        check.due("an ALERT more", sets.count(3), 4);
        sets.forget(0);
        Check.object(sets, 0, "a: x;");
        sets.run(0);
        check.due("an ALERT more", sets.count(3), 5);
        Check.save(sets, "x*");
        sets.run(0);
        check.due("an ALERT more", sets.count(3), 6);
        alert(sets, 0, 0, 1, 0, 1);
        alert(sets, 1, 0, 1, 0, 2);
        alert(sets, 2, 0, 2, 0, 2);
        alert(sets, 3, 0, 3, 0, 2);
        alert(sets, 4, 0, 3, 0, 3);
        alert(sets, 5, 1, 4, 0, 3);
    }

    private static void latestHundred() {
        PercolateSets sets = new PercolateSets();
        Check.save(sets, "*");
        for (int i = 0; i < 100; i++) {
            sets.object(i % 12);
            sets.run(i % 12);
        }
        alert(sets, 0, 0, 1, 0, 1);
        alert(sets, 99, 0, 1, 3, 100);
        check.due("alert(100, 0)", sets.alert(100, 0), PercolateSets.BAD);
        sets.object(9);
        sets.run(9);
        check.due("told in all", sets.count(3), 101);
        check.due("alert(0, 0)", sets.alert(0, 0), PercolateSets.BAD);
        alert(sets, 1, 0, 1, 1, 2);
        alert(sets, 100, 0, 1, 9, 101);
        check.due("alert(101, 0)", sets.alert(101, 0), PercolateSets.BAD);
    }

    private static void toldStaysToldWhenNotKept() {
        PercolateSets sets = new PercolateSets();
        for (int q = 0; q < 40; q++) {
            Check.save(sets, "*");
        }
        for (int key = 0; key < 4; key++) {
            sets.object(key);
        }
        check.due("batch", sets.batch(), 160);
        check.due("told", sets.count(3), 160);
        check.due("alert(59, 3)", sets.alert(59, 3), PercolateSets.BAD);
        alert(sets, 60, 20, 21, 1, 2);
        check.due("batch again", sets.batch(), 160);
        check.due("told once", sets.count(3), 160);
    }

    private static void mostOfAll() {
        PercolateSets sets = new PercolateSets();
        for (int q = 0; q < 40; q++) {
            Check.save(sets, "*");
        }
        for (int key = 0; key < 12; key++) {
            sets.object(key);
        }
        check.due("batch", sets.batch(), 480);
        check.due("matched(479)", sets.matched(479), 1139);
        check.due("matched(480)", sets.matched(480), PercolateSets.BAD);
        check.due("candidates", sets.count(4), 480);
        check.due("needless", sets.count(5), 480);
        check.due("matched", sets.count(6), 480);
        check.due("told", sets.count(3), 480);
        alert(sets, 380, 20, 21, 9, 10);
        alert(sets, 479, 39, 40, 11, 12);
    }

    private static void counts() {
        PercolateSets sets = new PercolateSets();
        Check.save(sets, "x | y*");
        Check.save(sets, "y | y*");
        Check.save(sets, "*");
        Check.object(sets, 3, "a: x;");
        Check.object(sets, 3, "a: yy;");
        sets.run(3);
        Check.tell(sets, "seven b");
        int[] want = {3, 1, 1, 3, 3, 1, 3, 3, 7, 3, 2};
        for (int what = 0; what < want.length; what++) {
            check.due("count(" + what + ")", sets.count(what), want[what]);
        }
        int[] wrong = {-1, 11, Integer.MIN_VALUE, Integer.MAX_VALUE};
        for (int what : wrong) {
            check.due("count(" + what + ")", sets.count(what), PercolateSets.BAD);
        }
    }

    private static void wrongNumbers() {
        PercolateSets sets = new PercolateSets();
        Check.save(sets, "*");
        sets.object(0);
        sets.run(0);
        int[] wrong = {-1, 4, Integer.MIN_VALUE, Integer.MAX_VALUE};
        for (int n : wrong) {
            check.due("alert(0, " + n + ")", sets.alert(0, n), PercolateSets.BAD);
            check.due("alert(" + n + ", 0)", sets.alert(n, 0), PercolateSets.BAD);
            check.due("matched(" + n + ")", sets.matched(n), PercolateSets.BAD);
            check.due("run(" + n + ")", sets.run(n), PercolateSets.BAD);
        }
        check.due("run(11)", sets.run(11), PercolateSets.BAD);
        check.due("run(12)", sets.run(12), PercolateSets.BAD);
    }
}
