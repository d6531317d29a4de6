/** Promise 21: shown, the PLACES of a QUERY in an OBJECT. */
final class ShownTest {
    private static final Check check = new Check("ShownTest");

    public static void main(String[] args) {
        leaves();
        together();
        joined();
        within();
        wrongNumbers();
        check.end();
    }

    private static void shows(String query, String object, String want) {
        PercolateSets sets = new PercolateSets();
        check.due("save of " + query, Check.save(sets, query), 0);
        check.due("object of " + object, Check.object(sets, 11, object) > 0 ? 1 : 0, 1);
        int many = want.isEmpty() ? 0 : want.split(" ").length;
        check.due("how many of " + query, sets.shown(0, 11, -1), many);
        check.text(query + " in " + object, Check.shownOf(sets, 0, 11), want);
        check.due("one more of " + query, sets.shown(0, 11, many), PercolateSets.BAD);
        check.due("nothing is told by it", sets.count(3), 0);
    }

    private static void leaves() {
        shows("x", "a:x y;b:x;", "2 8");
        shows("a:x", "a:x y;b:x;", "2");
        shows("z", "a:x y;b:x;", "");
        shows("x*", "d:xx y x;a:x0;", "2 7 11");
        shows("[1..12]", "a:1 12 13 0012 a1;", "2 4 10");
        shows("*", "a:x;", "");
        shows("x", "b:x; a:x; b:x; a{ a:x; }", "2 7 12");
    }

    private static void together() {
        shows("\"x y\"", "a:x y x;", "2 4");
        shows("\"x\"", "a:x y x;", "2 6");
        shows("\"x x\"", "a:x x x;", "2 4 6");
        shows("\"x y\"~1", "a:x x y y;", "2 4 6 8");
        shows("\"x y\"", "a:x x y y;", "4 6");
        shows("\"x y z\"~2", "a:x y y z z z;", "2 4 6 8 10");
        shows("\"x y x\"~3", "a:x y y x x q y;", "2 4 6 8 10");
        shows("\"x y\"", "a:x;b:y;a:y;", "2 10");
        shows("a:\"x y\"", "b:x y;a:q x y;", "10 12");
        shows("\"x y x y\"~1", "a:x y q x y x y;", "2 4 8 10 12 14");
        shows("\"x y y\"~1", "a:x y y y y;", "2 4 6 8");
    }

    private static void joined() {
        shows("x & y", "a:x q y;", "2 6");
        shows("x & y", "a:x q;", "");
        shows("x | y", "a:x q;", "2");
        shows("x | y & z", "a:x y;", "2");
        shows("x | x", "a:x y;", "2");
        shows("x & !y", "a:x;", "2");
        shows("!!x", "a:x;", "");
        shows("!y", "a:x;", "");
        shows("x | !x", "a:x;", "2");
        shows("#2(x,y,z & q)", "a:x y z;", "2 4");
        shows("#2(x,y,z)", "a:x y z;", "2 4 6");
        shows("#2(x,y,z)", "a:x;", "");
        shows("#1(!x,y)", "a:x y;", "4");
    }

    private static void within() {
        shows("c{ x }", "c{a:x;} a:x; c{b:x;}", "4 17");
        shows("c{ x & y }", "c{a:x;} c{b:y x;} c{a:y;}", "12 14");
        shows("c{ x } | x", "a:x; d{a:x;}", "2");
        shows("c{ d{ x } | y }", "c{d{a:x;}} c{a:y;} d{a:x;}", "6 15");
        shows("c{ !x }", "c{a:y;}", "");
        shows("!c{ x }", "c{a:y;}", "");
        shows("c{ x | * }", "c{a:y;} c{a:x;}", "12");
    }

    private static void wrongNumbers() {
        PercolateSets sets = new PercolateSets();
        Check.save(sets, "x");
        Check.save(sets, "y");
        Check.object(sets, 0, "a:x;");
        int[] wrong = {-2, 1, Integer.MIN_VALUE, Integer.MAX_VALUE};
        for (int k : wrong) {
            check.due("shown(0, 0, " + k + ")", sets.shown(0, 0, k), PercolateSets.BAD);
        }
        check.due("how many where it does not match", sets.shown(1, 0, -1), 0);
        check.due("the first where it does not match", sets.shown(1, 0, 0), PercolateSets.BAD);
        int[] none = {-1, 2, 12, 40, Integer.MIN_VALUE, Integer.MAX_VALUE};
        for (int n : none) {
            check.due("shown(" + n + ", 0, -1)", sets.shown(n, 0, -1), PercolateSets.BAD);
            check.due("shown(0, " + n + ", -1)", sets.shown(0, n, -1), PercolateSets.BAD);
        }
    }
}
