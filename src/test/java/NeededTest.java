/** Promises 8 and 9: query, needed; ORDER, WEIGHT, COST, LEAST and UNION, plainly and TURNED. */
final class NeededTest {
    private static final Check check = new Check("NeededTest");

    public static void main(String[] args) {
        leaves();
        bothAndEither();
        counted();
        turned();
        likeOnes();
        order();
        numbersOfAQuery();
        signs();
        check.end();
    }

    private static void needs(String text, String want, int cost) {
        PercolateSets sets = new PercolateSets();
        check.due("save of " + text, Check.save(sets, text), 0);
        check.text("needed of " + text, Check.neededOf(sets, 0), want);
        boolean isAll = want.equals("ALL");
        int many = want.isEmpty() ? 0 : want.split(" ").length;
        check.due("how many of " + text, sets.query(0, 1), isAll ? PercolateSets.NONE : many);
        check.due("cost of " + text, sets.query(0, 2), isAll ? PercolateSets.NONE : cost);
        check.due("needless of " + text, sets.count(1), isAll ? 1 : 0);
        check.due("different of " + text, sets.count(7), isAll ? 0 : many);
    }

    private static void leaves() {
        needs("red", "red", 21);
        needs("a:red", "red", 21);
        needs("abcdefghijkl", "abcdefghijkl", 12);
        needs("red*", "red*", 37);
        needs("abcdefghijkl*", "abcdefghijkl*", 28);
        needs("\"big old red\"", "big", 21);
        needs("\"big older red\"~4", "older", 19);
        needs("\"big aa older newer\"", "older", 19);
        needs("[1..2]", "ALL", 0);
        needs("*", "ALL", 0);
        needs("c{ red }", "red", 21);
        needs("c{ * }", "ALL", 0);
    }

    private static void bothAndEither() {
        needs("red & blue", "blue", 20);
        needs("blue & red", "blue", 20);
        needs("red & blue & * & greens", "greens", 18);
        needs("red | blue", "blue red", 41);
        needs("red | red", "red", 21);
        needs("red | red*", "red red*", 58);
        needs("red | *", "ALL", 0);
        needs("red & *", "red", 21);
        needs("[1..2] & *", "ALL", 0);
        needs("red | blue & [1..2]", "blue red", 41);
        needs("(red | blue) & abcdefghijkl*", "abcdefghijkl*", 28);
        needs("(red | blue) & x*", "x*", 39);
        needs("(abcdefghijkl | bcdefghijklm) & x", "x", 23);
        needs("(red | red) & dead*", "red", 21);
    }

    private static void counted() {
        needs("#1(red, blue, green)", "blue green red", 60);
        needs("#2(red, blue, green)", "blue green", 39);
        needs("#3(red, blue, green)", "green", 19);
        needs("#4(red, blue, green)", "", 0);
        needs("#2(red, *, green)", "green red", 40);
        needs("#1(red, *, green)", "ALL", 0);
        needs("#2(red, *, [1..2])", "ALL", 0);
        needs("#3(red, *, [1..2])", "red", 21);
        needs("#2(red|blue, x, x*)", "x x*", 62);
        needs("#2(red|blue, xy, x*)", "x* xy", 61);
        needs("#2(red|red, red, abc)", "red", 21);
    }

    private static void turned() {
        needs("!red", "ALL", 0);
        needs("!red*", "ALL", 0);
        needs("!\"red car\"", "ALL", 0);
        needs("![1..2]", "ALL", 0);
        needs("!*", "", 0);
        needs("!c{ * }", "ALL", 0);
        needs("!c{ !* }", "ALL", 0);
        needs("c{ !* }", "", 0);
        needs("!!red", "red", 21);
        needs("!!!red", "ALL", 0);
        needs("!(!red & !blue)", "blue red", 41);
        needs("!(!red | !blue)", "blue", 20);
        needs("!(red | !blue)", "blue", 20);
        needs("!(red & !blue)", "ALL", 0);
        needs("!(* | !blue)", "", 0);
        needs("!(* & !blue)", "blue", 20);
        needs("!#1(!red, !blue, !green)", "green", 19);
        needs("!#2(!red, !blue, !green)", "blue green", 39);
        needs("!#3(!red, !blue, !green)", "blue green red", 60);
        needs("!#4(!red, !blue, !green)", "ALL", 0);
        needs("!#9(*)", "ALL", 0);
        needs("!#1(*)", "", 0);
        needs("!#2(*, !red)", "red", 21);
        needs("!#1(*, !red)", "", 0);
        needs("!!#4(a,b,c)", "", 0);
        needs("red | !*", "red", 21);
        needs("red & !*", "", 0);
        needs("!c{ !red }", "ALL", 0);
    }

    private static void likeOnes() {
        needs("red & old", "red", 21);
        needs("old & red", "old", 21);
        needs("\"red old\"", "red", 21);
        needs("#2(red, old)", "red", 21);
        needs("#2(red, old, new)", "old red", 42);
        needs("#2(new, abcd, red, old)", "abcd new red", 62);
        needs("!(!red | !old)", "red", 21);
        needs("!#1(!old, !red)", "old", 21);
        // abcdefgh* costs 32, fghijkl and abcdefgh 17 + 16 = 33, a bare word of 1 sign 23
        needs("abcdefgh* & (fghijkl | abcdefgh)", "abcdefgh*", 32);
        // 17 + 16 = 33 both
        needs("(fghijkl | abcdefgh) & abcdefg*", "abcdefgh fghijkl", 33);
        needs("abcdefg* & (fghijkl | abcdefgh)", "abcdefg*", 33);
    }

    private static void order() {
        needs("b|a|9|0|a9|aa|a0|ab|abc|z|zz|a*|9*|a0*",
            "0 9 9* a a* a0 a0* a9 aa ab abc b z zz",
            23 + 23 + 39 + 23 + 39 + 22 + 38 + 22 + 22 + 22 + 21 + 23 + 23 + 22);
        needs("abcdefghijkl|abcdefghijk|abcdefghijk*|zzzzzzzzzzzz|000000000000|zzzzzzzzzzzz*",
            "000000000000 abcdefghijk abcdefghijk* abcdefghijkl zzzzzzzzzzzz zzzzzzzzzzzz*",
            12 + 13 + 29 + 12 + 12 + 28);
    }

    private static void numbersOfAQuery() {
        PercolateSets sets = new PercolateSets();
        Check.save(sets, "\"a b c\" & (* | !*) | a:[1..2] & d{ x | y* }");
        check.due("leaves", sets.query(0, 3), 6);
        check.due("query(0, -1)", sets.query(0, -1), PercolateSets.BAD);
        check.due("query(0, 4)", sets.query(0, 4), PercolateSets.BAD);
        check.due("query(0, min)", sets.query(0, Integer.MIN_VALUE), PercolateSets.BAD);
        int[] none = {-1, 1, 39, 40, Integer.MIN_VALUE, Integer.MAX_VALUE};
        for (int q : none) {
            for (int what = 0; what <= 3; what++) {
                check.due("query(" + q + ", " + what + ")", sets.query(q, what), PercolateSets.BAD);
            }
        }
        Check.save(sets, "x | y* | z");
        Check.save(sets, "x* | y* | zz");
        check.due("different terms of all", sets.count(7), 6);
        sets.drop(0);
        check.due("x y* z x* zz", sets.count(7), 5);
        Check.change(sets, 1, "*");
        check.due("x* y* zz", sets.count(7), 3);
        check.due("needless", sets.count(1), 1);
    }

    private static void signs() {
        PercolateSets sets = new PercolateSets();
        Check.save(sets, "az09 | az*");
        check.due("signs of the BEGINNING", sets.needed(0, 0, -1), 2);
        check.due("a BEGINNING", sets.needed(0, 0, -2), 1);
        check.due("its sign 0", sets.needed(0, 0, 0), 'a');
        check.due("its sign 1", sets.needed(0, 0, 1), 'z');
        check.due("its sign 2", sets.needed(0, 0, 2), PercolateSets.BAD);
        check.due("signs of the word", sets.needed(0, 1, -1), 4);
        check.due("a word", sets.needed(0, 1, -2), 0);
        check.due("its sign 2", sets.needed(0, 1, 2), '0');
        check.due("its sign 3", sets.needed(0, 1, 3), '9');
        check.due("its sign 4", sets.needed(0, 1, 4), PercolateSets.BAD);
        int[] wrong = {-3, 12, 13, Integer.MIN_VALUE, Integer.MAX_VALUE};
        for (int i : wrong) {
            check.due("needed(0, 0, " + i + ")", sets.needed(0, 0, i), PercolateSets.BAD);
        }
        int[] wrongNumbers = {-1, 2, 60, Integer.MIN_VALUE, Integer.MAX_VALUE};
        for (int k : wrongNumbers) {
            check.due("needed(0, " + k + ", -1)", sets.needed(0, k, -1), PercolateSets.BAD);
            check.due("needed(" + k + ", 0, -1)", sets.needed(k, 0, -1), PercolateSets.BAD);
        }
        Check.save(sets, "!a");
        check.due("needed of a NEEDLESS one", sets.needed(1, 0, -1), PercolateSets.BAD);
        Check.save(sets, "!*");
        check.due("needed of an empty one", sets.needed(2, 0, -1), PercolateSets.BAD);
    }
}
