/** Promises 18 to 20: match, candidate, tried. */
final class MatchTest {
    private static final Check check = new Check("MatchTest");

    public static void main(String[] args) {
        words();
        beginnings();
        numbers();
        together();
        joined();
        counted();
        within();
        candidates();
        trying();
        wrongNumbers();
        check.end();
    }

    private static void matches(String query, String object, int want) {
        PercolateSets sets = new PercolateSets();
        check.due("save of " + query, Check.save(sets, query), 0);
        check.due("object of " + object, Check.object(sets, 5, object) > 0 ? 1 : 0, 1);
        check.due(query + " matches " + object, sets.match(0, 5), want);
        check.due(query + " tried with " + object, sets.tried(5), want);
        check.due("nothing is told by it", sets.count(3), 0);
        check.due(query + " run with " + object, sets.run(5), want);
    }

    private static void words() {
        matches("red", "a: red;", 1);
        matches("red", "d: blue red;", 1);
        matches("red", "a: redder re;", 0);
        matches("red", "", 0);
        matches("red", "a{ a: red; }", 0);
        matches("a:red", "a: red;", 1);
        matches("a:red", "b: red;", 0);
        matches("d:red", "a: red; d: x; b: y; d: red;", 1);
        matches("a", "a: a;", 1);
        matches("abcdefghijkl", "a: abcdefghijkl;", 1);
        matches("abcdefghijkl", "a: abcdefghijk;", 0);
        matches("a", "a: a0;", 0);
        matches("abcdefghijk", "a: abcdefghijk0;", 0);
        matches("abcdefghijka", "a: abcdefghijkb;", 0);
    }

    private static void beginnings() {
        matches("red*", "a: red;", 1);
        matches("red*", "a: redder;", 1);
        matches("red*", "a: re rfd rec;", 0);
        matches("red*", "a: ree;", 0);
        matches("b:red*", "a: redder; b: blue;", 0);
        matches("z*", "a: zzzzzzzzzzzz;", 1);
        matches("zzzzzzzzzzzz*", "a: zzzzzzzzzzzz;", 1);
        matches("zzzzzzzzzzz*", "a: zzzzzzzzzzz0;", 1);
        matches("0*", "a: 0;", 1);
        matches("0*", "a: 1;", 0);
    }

    private static void numbers() {
        matches("[3..40]", "a: 3;", 1);
        matches("[3..40]", "a: 40;", 1);
        matches("[3..40]", "a: 2 41 3a a3;", 0);
        matches("[3..40]", "a: 000000000012;", 1);
        matches("[0..0]", "b: 000000000000;", 1);
        matches("[0..0]", "b: 000000000001;", 0);
        matches("[0..9999]", "a: 9999;", 1);
        matches("[0..9999]", "a: 10000 999999999999 100000000000;", 0);
        matches("[0000..9999]", "a: 10000 x;", 0);
        matches("[1..2]", "a: 4294967297;", 0);
        matches("c:[1..2]", "a: 1; b: 1; d: 1;", 0);
        matches("c:[1..2]", "c: 1;", 1);
    }

    private static void together() {
        matches("\"x y\"", "a: x y;", 1);
        matches("\"x y\"", "a: y x;", 0);
        matches("\"x y\"", "a: x q y;", 0);
        matches("\"x y\"~1", "a: x q y;", 1);
        matches("\"x y\"~1", "a: x q q y;", 0);
        matches("\"x y\"~9", "a: x 1 2 3 4 5 6 7 8 9 y;", 1);
        matches("\"x y\"~9", "a: x 1 2 3 4 5 6 7 8 9 0 y;", 0);
        matches("\"x y\"", "a: x; a: y;", 1);
        matches("\"x y\"", "a: x; b: q; c{ a: q; } a: y;", 1);
        matches("\"x y\"", "a: x; b: y;", 0);
        matches("\"x y\"", "a: x; a{ a: y; }", 0);
        matches("\"x\"", "c: x;", 1);
        matches("\"x x\"", "c: x;", 0);
        matches("\"x x\"", "c: x q x x;", 1);
        matches("\"x y x\"~1", "a: x y q x y x;", 1);
        matches("\"x y z\"~1", "a: x q y q z;", 0);
        matches("\"x y z\"~1", "a: x x y z;", 1);
        matches("\"x y z\"~0", "a: x x y z;", 1);
        matches("\"a b c d e f\"", "a: a b c d e f;", 1);
        matches("\"a b c d e f\"~2", "a: a b c q d e q f;", 1);
        matches("\"a b c d e f\"~1", "a: a b c q d e q f;", 0);
        matches("b:\"x y\"", "a: x y;", 0);
        matches("\"12 12\"", "a: 12 012;", 0);
    }

    private static void joined() {
        matches("x | y", "a: y;", 1);
        matches("x | y", "a: z;", 0);
        matches("x & y", "a: x; b: y;", 1);
        matches("x & y", "a: x;", 0);
        matches("x | y & z", "a: x;", 1);
        matches("(x | y) & z", "a: x;", 0);
        matches("!x", "a: y;", 1);
        matches("!x", "a: x;", 0);
        matches("!!x", "a: x;", 1);
        matches("!x & y", "a: y;", 1);
        matches("!(x & y)", "a: y;", 1);
        matches("*", "", 1);
        matches("!*", "a: x;", 0);
    }

    private static void counted() {
        matches("#2(x, y, z)", "a: x z;", 1);
        matches("#2(x, y, z)", "a: x x;", 0);
        matches("#2(x, x, z)", "a: x;", 1);
        matches("#3(x, y)", "a: x y;", 0);
        matches("!#3(x, y)", "a: x y;", 1);
        matches("#2(x | y, !z, *)", "a: z;", 0);
        matches("#2(x | y, !z, *)", "a: q;", 1);
        matches("#9(" + Check.times("x,", 8) + "x)", "a: x;", 1);
    }

    private static void within() {
        matches("c{ x }", "c{ a: x; }", 1);
        matches("c{ x }", "d{ a: x; }", 0);
        matches("c{ x }", "c: x;", 0);
        matches("c{ x & y }", "c{ a: x; } c{ a: y; }", 0);
        matches("c{ x } & c{ y }", "c{ a: x; } c{ a: y; }", 1);
        matches("c{ !x }", "c{ a: x; } c{ }", 1);
        matches("!c{ x }", "c{ a: x; } c{ }", 0);
        matches("c{ !x }", "", 0);
        matches("c{ * }", "d{ c{ } }", 0);
        matches("d{ c{ * } }", "d{ c{ } }", 1);
        matches("c{ * }", "c{ }", 1);
        matches("a{b{c{d{ a:x }}}}", "a{b{c{d{ a:x; }}}}", 1);
        matches("a{b{c{d{ a:x }}}}", "a{b{c{} c{d{ b:x; } d{ a:x; }}}}", 1);
        matches("a{b{ x }}", "a{ a:x; b{ } } b{ a:x; }", 0);
        matches("a{ b{ x } & y }", "a{ b{ a:x; } c:y; }", 1);
        matches("a{a{a{a{a{*}}}}}", "a{a{a{a{}}}}", 0);
    }

    private static void candidates() {
        PercolateSets sets = new PercolateSets();
        String[] queries = {"x & yy", "x & y*", "!x", "!*", "c{ yy }", "a:yy", "#2(x,yy,zz)", "\"q yy\"", "[1..2]", "yyy*"};
        for (String query : queries) {
            Check.save(sets, query);
        }
        Check.object(sets, 0, "d{ d{ b: yy; } }");
        int[] want = {1, 0, 1, 0, 1, 1, 1, 1, 1, 0};
        for (int q = 0; q < want.length; q++) {
            check.due(queries[q] + " is a candidate", sets.candidate(q, 0), want[q]);
        }
        Check.object(sets, 1, "");
        int[] wantOfEmpty = {0, 0, 1, 0, 0, 0, 0, 0, 1, 0};
        for (int q = 0; q < wantOfEmpty.length; q++) {
            check.due(queries[q] + " is a candidate for nothing", sets.candidate(q, 1), wantOfEmpty[q]);
        }
        Check.object(sets, 2, "a: yyy0 zz;");
        int[] wantOfOther = {0, 0, 1, 0, 0, 0, 1, 0, 1, 1};
        for (int q = 0; q < wantOfOther.length; q++) {
            check.due(queries[q] + " is a candidate for others", sets.candidate(q, 2), wantOfOther[q]);
        }
        check.due("nothing is counted by it", sets.count(4), 0);
    }

    private static void trying() {
        PercolateSets sets = new PercolateSets();
        Check.object(sets, 0, "a: x y;");
        check.due("tried without queries", sets.tried(0), 0);
        String[] queries = {"x", "y", "z", "*", "!z", "x & z"};
        for (String query : queries) {
            Check.save(sets, query);
        }
        check.due("tried", sets.tried(0), 4);
        sets.drop(0);
        check.due("tried when one went", sets.tried(0), 3);
        check.due("nothing is MATCHED by it", sets.matched(0), PercolateSets.BAD);
        check.due("no ALERT is told by it", sets.count(3), 0);
    }

    private static void wrongNumbers() {
        PercolateSets sets = new PercolateSets();
        Check.save(sets, "*");
        Check.object(sets, 0, "");
        check.due("match(0, 0)", sets.match(0, 0), 1);
        int[] wrong = {-1, 1, 12, 40, Integer.MIN_VALUE, Integer.MAX_VALUE};
        for (int n : wrong) {
            check.due("match(" + n + ", 0)", sets.match(n, 0), PercolateSets.BAD);
            check.due("match(0, " + n + ")", sets.match(0, n), PercolateSets.BAD);
            check.due("candidate(" + n + ", 0)", sets.candidate(n, 0), PercolateSets.BAD);
            check.due("candidate(0, " + n + ")", sets.candidate(0, n), PercolateSets.BAD);
            check.due("tried(" + n + ")", sets.tried(n), PercolateSets.BAD);
        }
    }
}
