/** Promises 10 to 13: object with its FAULTS, forget, about, unit. */
final class ObjectTest {
    private static final Check check = new Check("ObjectTest");

    public static void main(String[] args) {
        goodOnes();
        wrongBytes();
        tooMany();
        formerStays();
        unitsOfATree();
        aboutAndForget();
        wrongNumbers();
        check.end();
    }

    private static void good(String text, int units, int words) {
        check.goodObject(text, units, words);
    }

    private static void bad(String text, int kind, int place) {
        check.badObject(text, kind, place);
    }

    private static void goodOnes() {
        good("", 1, 0);
        good("   ", 1, 0);
        good("a:;", 1, 0);
        good(" a:  x  y ; b: z; ", 1, 3);
        good("a:x;a:x;", 1, 2);
        good("a{}b{ } c{ d{ a:x; } }", 5, 1);
        good("c{c{c{c{a:b;}}}}", 5, 1);
        good("a:abcdefghijkl 0123456789ab;", 1, 2);
    }

    private static void wrongBytes() {
        bad("e:x;", 1, 0);
        bad("?", 1, 0);
        bad("x", 1, 0);
        bad("A:x;", 1, 0);
        bad("a", 1, 1);
        bad("a :x;", 1, 1);
        bad("ab:x;", 1, 1);
        bad("a {}", 1, 1);
        bad("a:x", 1, 3);
        bad("a:", 1, 2);
        bad("a: ", 1, 3);
        bad("a:x*;", 1, 3);
        bad("a:x:y;", 1, 3);
        bad("a:x}", 1, 3);
        bad("a:x;;", 1, 4);
        bad("}", 1, 0);
        bad("a:x; }", 1, 5);
        bad("a{", 1, 2);
        bad("a{ ", 1, 3);
        bad("a{b:x;", 1, 6);
        bad("a{b:x}", 1, 5);
        bad("a{}}", 1, 3);
        bad("a{e}", 1, 2);
        bad("a{;}", 1, 2);
        bad("a:\u00e9;", 1, 2);
        bad("a:abcdefghijklm;", 1, 14);
        bad("a:abcdefghijkla:x;", 1, 14);
        bad("a:abcdefghijkl0;", 1, 14);
        bad("a:x;\u0000", 1, 4);
    }

    private static void tooMany() {
        String words = "a:" + Check.times("x ", 119);
        good(words + "x;", 1, 120);
        bad(words + "x x;", 2, 242);
        bad(words + "x; b:y;", 2, 245);
        bad(words + "x ?;", 1, 242);
        bad(words + "x abcdefghijklm;", 2, 242);
        good(Check.times("a{}", 29), 30, 0);
        bad(Check.times("a{}", 29) + "a{}", 2, 88);
        good(Check.times("a{}", 29) + "a:x;", 30, 1);
        bad(Check.times("a{}", 29) + "a", 1, 88);
        bad("a{b{c{d{a{", 2, 9);
        bad("a{b{c{d{}d{}d{a{}}}}}", 2, 15);
        good("a{b{c{d{}d{}}c{}}b{c{d{}}}}a{}", 11, 0);
        good("a:x;" + Check.times(" ", 596), 1, 1);
        bad("a:x;" + Check.times(" ", 597), 2, 600);
        bad(Check.times("?", 700), 2, 600);
        good(Check.times("a: 0123456789ab ; ", 33), 1, 33);
    }

    private static void formerStays() {
        PercolateSets sets = new PercolateSets();
        check.due("object", Check.object(sets, 3, "a:x y;"), 1);
        check.due("object with a fault", Check.object(sets, 3, "a{b:z;}?"), -11);
        check.due("the former version", sets.about(3, 0), 1);
        check.due("the former words", sets.about(3, 2), 2);
        check.due("the latest version", sets.count(10), 1);
        Check.save(sets, "x & y");
        check.due("it still matches", sets.match(0, 3), 1);
        check.due("another object", Check.object(sets, 3, "a{b:z;}"), 2);
        check.due("its version", sets.about(3, 0), 2);
        check.due("it does not match", sets.match(0, 3), 0);
        check.due("objects", sets.count(2), 1);
    }

    private static void unitsOfATree() {
        PercolateSets sets = new PercolateSets();
        String text = "a:x y; b{ c:z; a{ d:q q q; } c:z z; d{} } a:w; b{ b:x; }";
        check.due("object", Check.object(sets, 0, text), 5);
        int[][] want = {
            {PercolateSets.NONE, PercolateSets.NONE, 3, 0, 0, 0},
            {0, 1, 0, 0, 3, 0},
            {1, 0, 0, 0, 0, 3},
            {1, 3, 0, 0, 0, 0},
            {0, 1, 0, 1, 0, 0},
        };
        for (int u = 0; u < want.length; u++) {
            for (int what = 0; what < 6; what++) {
                check.due("unit(0, " + u + ", " + what + ")", sets.unit(0, u, what), want[u][what]);
            }
        }
        int[] wrong = {-1, 6, Integer.MIN_VALUE, Integer.MIN_VALUE + 1, Integer.MAX_VALUE};
        for (int what : wrong) {
            check.due("unit(0, 0, " + what + ")", sets.unit(0, 0, what), PercolateSets.BAD);
        }
        int[] wrongUnits = {-1, 5, 30, Integer.MIN_VALUE, Integer.MAX_VALUE};
        for (int u : wrongUnits) {
            check.due("unit(0, " + u + ", 0)", sets.unit(0, u, 0), PercolateSets.BAD);
        }
    }

    private static void aboutAndForget() {
        PercolateSets sets = new PercolateSets();
        Check.object(sets, 11, "a:x;");
        Check.object(sets, 0, "a:x y x; b{ c:x 1 01 y; }");
        check.due("version", sets.about(0, 0), 2);
        check.due("units", sets.about(0, 1), 2);
        check.due("words", sets.about(0, 2), 7);
        check.due("different words", sets.about(0, 3), 4);
        check.due("objects", sets.count(2), 2);
        check.due("forget(0)", sets.forget(0), 2);
        check.due("forget(0) again", sets.forget(0), PercolateSets.BAD);
        check.due("about(0, 0)", sets.about(0, 0), PercolateSets.BAD);
        check.due("unit(0, 0, 0)", sets.unit(0, 0, 0), PercolateSets.BAD);
        check.due("objects", sets.count(2), 1);
        check.due("object again", Check.object(sets, 0, ""), 1);
        check.due("its version", sets.about(0, 0), 3);
        check.due("forget(11)", sets.forget(11), 1);
        check.due("the latest version", sets.count(10), 3);
    }

    private static void wrongNumbers() {
        PercolateSets sets = new PercolateSets();
        Check.object(sets, 0, "a:x;");
        int[] wrong = {-1, 4, Integer.MIN_VALUE, Integer.MAX_VALUE};
        for (int what : wrong) {
            check.due("about(0, " + what + ")", sets.about(0, what), PercolateSets.BAD);
        }
        int[] keys = {-1, 1, 11, 12, Integer.MIN_VALUE, Integer.MAX_VALUE};
        for (int key : keys) {
            check.due("about(" + key + ", 0)", sets.about(key, 0), PercolateSets.BAD);
            check.due("unit(" + key + ", 0, 0)", sets.unit(key, 0, 0), PercolateSets.BAD);
            check.due("forget(" + key + ")", sets.forget(key), PercolateSets.BAD);
        }
    }
}
