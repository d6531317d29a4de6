/** The edges of part 2 and of promises 18 to 21: match, candidate, tried, shown. */
final class EdgeMatchTest {
    private static final int BAD = PercolateSets.BAD;
    private static final Check check = new Check("EdgeMatchTest");

    public static void main(String[] args) {
        wordsOfEachLength();
        beginningsOfEachLength();
        endsOfTheNumbers();
        digitsAlone();
        reachOfATogether();
        placesRise();
        oneRow();
        fieldsAsked();
        numberOfACount();
        deepestParts();
        lastUnit();
        emptyObject();
        needlessAreCandidates();
        emptyNeedsAreNoCandidates();
        neededOfAnyUnitAndField();
        neededBeginnings();
        candidatesNeedNotMatch();
        triedOfFortyQueries();
        shownOfAll();
        shownFirstAndLastPlace();
        shownOnce();
        shownOfTogether();
        shownNothing();
        whatDoesNotHoldShowsNothing();
        shownWithin();
        matchOfNone();
        shownOfNone();
        check.end();
    }

    private static void matches(String query, String object, int want) {
        PercolateSets sets = new PercolateSets();
        check.due("save of " + query, Check.save(sets, query), 0);
        check.due("object of " + object, Check.object(sets, 11, object) > 0 ? 1 : 0, 1);
        check.due(query + " matches " + object, sets.match(0, 11), want);
        check.due(query + " tried with " + object, sets.tried(11), want);
        check.due("nothing is told by it", sets.count(3), 0);
        check.due("nothing is MATCHED by it", sets.count(6), 0);
        check.due(query + " run with " + object, sets.run(11), want);
    }

    private static void shows(String query, String object, String want) {
        PercolateSets sets = new PercolateSets();
        check.due("save of " + query, Check.save(sets, query), 0);
        check.due("object of " + object, Check.object(sets, 0, object) > 0 ? 1 : 0, 1);
        int many = want.isEmpty() ? 0 : want.split(" ").length;
        check.due("how many of " + query, sets.shown(0, 0, -1), many);
        check.text(query + " in " + object, Check.shownOf(sets, 0, 0), want);
        check.due("one more of " + query, sets.shown(0, 0, many), BAD);
        check.due("nothing is told by it", sets.count(3), 0);
    }

    /** "a word: it is there": not one that is longer by a sign, shorter by one, or has another last sign. */
    private static void wordsOfEachLength() {
        String signs = "abcdefghijkl";
        for (int length = 1; length <= 12; length++) {
            String word = signs.substring(0, length);
            matches(word, "a: " + word + ";", 1);
            matches(word, "a: " + word.substring(0, length - 1) + "z " + word.substring(0, length - 1) + "0;", 0);
            if (length > 1) {
                matches(word, "a: " + word.substring(0, length - 1) + ";", 0);
            }
            if (length < 12) {
                matches(word, "a: " + word + "0 " + word + "a " + word + "z;", 0);
            }
        }
    }

    /** "with * (a BEGINNING): one that begins with it (it itself, too)" */
    private static void beginningsOfEachLength() {
        String signs = "mmmmmmmmmmmm";
        for (int length = 1; length <= 12; length++) {
            String word = signs.substring(0, length);
            String shorter = signs.substring(0, length - 1);
            matches(word + "*", "a: " + word + ";", 1);
            matches(word + "*", "a: " + shorter + "l " + shorter + "n " + shorter + "0;", 0);
            if (length > 1) {
                matches(word + "*", "a: " + shorter + ";", 0);
            }
            if (length < 12) {
                matches(word + "*", "a: " + word + "0;", 1);
                matches(word + "*", "a: " + word + "z;", 1);
                matches(word + "*", "a: " + word + "zzzzzzzzzzzz".substring(length) + ";", 1);
                matches(word + "*", "a: " + word + "000000000000".substring(length) + ";", 1);
                matches(word + "*", "a: " + shorter + "lz " + shorter + "lzzz".substring(0, Math.min(4, 13 - length)) + ";", 0);
            }
        }
        matches("z*", "a: zzzzzzzzzzzz;", 1);
        matches("z*", "a: yzzzzzzzzzzz;", 0);
        matches("0*", "a: 000000000000;", 1);
        matches("0*", "a: 1;", 0);
    }

    /** "[ ]: one of digits alone whose number is of n to m" */
    private static void endsOfTheNumbers() {
        int[][] ends = {{0, 0}, {0, 1}, {1, 1}, {9, 10}, {3, 40}, {99, 100}, {999, 1000}, {1000, 9999}, {9999, 9999}, {0, 9999}};
        for (int[] end : ends) {
            String query = "[" + end[0] + ".." + end[1] + "]";
            matches(query, "a: " + end[0] + ";", 1);
            matches(query, "a: " + end[1] + ";", 1);
            matches(query, "a: " + (end[1] + 1) + ";", 0);
            if (end[0] > 0) {
                matches(query, "a: " + (end[0] - 1) + ";", 0);
            }
        }
    }

    /** "(any number of digits, 0s ahead)" */
    private static void digitsAlone() {
        for (int zeros = 0; zeros <= 10; zeros++) {
            String ahead = Check.times("0", zeros);
            matches("[12..13]", "a: " + ahead + "12;", 1);
            matches("[12..13]", "a: " + ahead + "11 " + ahead + "14;", 0);
        }
        matches("[0..0]", "a: 000000000000;", 1);
        matches("[0..0]", "a: 000000000001;", 0);
        matches("[0..9999]", "a: 000000009999;", 1);
        matches("[0..9999]", "a: 000000010000 10000 99999 100000 999999999999;", 0);
        // 2 to the 32nd and to the 31st, and one more
        matches("[0..9999]", "a: 4294967296 2147483648 4294967297;", 0);
        matches("[0..9999]", "a: 12a a12 1a2 x;", 0);
        matches("[0012..0013]", "a: 12;", 1);
    }

    /** "the last less the first at most k - 1 and the ~ (0 without)" */
    private static void reachOfATogether() {
        String[] words = {"p", "q", "r", "s", "t", "u"};
        for (int k = 2; k <= 6; k++) {
            String together = String.join(" ", java.util.Arrays.copyOf(words, k));
            for (int slack = 0; slack <= 9; slack++) {
                for (int gap = 1; gap < k; gap += Math.max(1, k - 2)) {
                    matches("\"" + together + "\"~" + slack, "a: " + withOthers(words, k, gap, slack) + ";", 1);
                    matches("\"" + together + "\"~" + slack, "a: " + withOthers(words, k, gap, slack + 1) + ";", 0);
                }
            }
            matches("\"" + together + "\"", "a: " + together + ";", 1);
            matches("\"" + together + "\"", "a: " + withOthers(words, k, 1, 1) + ";", 0);
        }
        for (int slack = 0; slack <= 9; slack++) {
            matches("\"p\"~" + slack, "a: o p o;", 1);
            matches("\"p\"~" + slack, "a: o o;", 0);
        }
    }

    /** The first k words with so many others ahead of word number gap. */
    private static String withOthers(String[] words, int k, int gap, int others) {
        StringBuilder row = new StringBuilder();
        for (int i = 0; i < k; i++) {
            row.append(i == gap ? Check.times("other ", others) : "").append(words[i]).append(' ');
        }
        return row.toString();
    }

    /** "places p1 < p2 < .. with these words in order": no place serves two words. */
    private static void placesRise() {
        matches("\"x x\"~9", "a: x;", 0);
        matches("\"x x\"~9", "a: x o x;", 1);
        matches("\"x x x\"~9", "a: x x;", 0);
        matches("\"x y\"~9", "a: y x;", 0);
        matches("\"x y x\"~9", "a: x y;", 0);
        matches("\"x y x\"~9", "a: x y x;", 1);
        matches("\"x x y\"~1", "a: x o x x y;", 1);
        // The first x that comes is too far ahead.
        matches("\"x y\"", "a: x o x y;", 1);
        matches("\"x y z\"~1", "a: x o o x y o z;", 1);
        matches("\"x y z\"~1", "a: x y o o x y o o z;", 0);
    }

    /** "in one row" */
    private static void oneRow() {
        matches("\"x y\"~9", "a: x; b: y;", 0);
        matches("\"x y\"~9", "a: x; a{ a: y; }", 0);
        matches("\"x y\"~9", "a{ a: x; } a{ a: y; }", 0);
        matches("\"x y\"", "a: x; b: o; a{ a: o; } a: ; a: y;", 1);
        matches("\"x y\"", "d: x; c: o; d: y;", 1);
    }

    /** "A leaf with a FIELD asks that row of the UNIT, without one all four" */
    private static void fieldsAsked() {
        String[] leaves = {"x", "x*", "[1..1]", "\"x 1\""};
        for (String leaf : leaves) {
            for (char row = 'a'; row <= 'd'; row++) {
                matches(leaf, row + ": x 1;", 1);
                for (char asked = 'a'; asked <= 'd'; asked++) {
                    matches(asked + ":" + leaf, row + ": x 1;", asked == row ? 1 : 0);
                }
            }
            matches(leaf, "a: o; a{ a: x 1; }", 0);
        }
    }

    /** "# n ( ): n of its parts at least (each by itself)" */
    private static void numberOfACount() {
        String[] words = {"p", "q", "r", "s", "t", "u", "v", "w", "x"};
        for (int n = 1; n <= 9; n++) {
            String query = "#" + n + "(" + String.join(",", words) + ")";
            String enough = String.join(" ", java.util.Arrays.copyOfRange(words, 9 - n, 9));
            String tooFew = String.join(" ", java.util.Arrays.copyOfRange(words, 10 - n, 9));
            matches(query, "a: " + enough + ";", 1);
            matches(query, "a: " + tooFew + " other;", 0);
            matches("!" + query, "a: " + enough + ";", 0);
            matches("!" + query, "a: " + tooFew + " other;", 1);
            matches("#" + n + "(" + Check.times("p,", n - 1) + "p)", "a: p;", 1);
        }
        matches("#2(p)", "a: p;", 0);
        matches("!#2(p)", "a: p;", 1);
        matches("#3(p,p)", "a: p p p;", 0);
    }

    /** The deepest UNITS, and a { } more than an OBJECT can have. */
    private static void deepestParts() {
        matches("a{b{c{d{x}}}}", "a{b{c{d{a:x;}}}}", 1);
        matches("a{b{c{x}}}", "a{b{c{d{a:x;}}}}", 0);
        matches("a{b{c{d{a{*}}}}}", "a{b{c{d{a:x;}}}}", 0);
        matches("a{b{c{d{!a{*}}}}}", "a{b{c{d{a:x;}}}}", 1);
        matches("a{b{c{d{*}}}}", "a{b{c{d{}}}}", 1);
        matches("a{b{d{c{*}}}}", "a{b{c{d{}}}}", 0);
        matches(Check.times("a{", 12) + "*" + Check.times("}", 12), "a{a{a{a{}}}}", 0);
    }

    /** "at one of the UNIT's PARTS of this FIELD at least the either holds": also if it is the 30th UNIT. */
    private static void lastUnit() {
        matches("d{x}", Check.times("d{a:o;}", 28) + "d{a:x;}", 1);
        matches("d{x}", "d{a:x;}" + Check.times("d{a:o;}", 28), 1);
        matches("d{x}", Check.times("d{a:o;}", 28) + "c{a:x;}", 0);
        matches("d{!x}", Check.times("d{a:x;}", 28) + "d{}", 1);
        matches("d{!x}", Check.times("d{a:x;}", 29), 0);
        matches("!d{x}", Check.times("d{}", 28) + "d{a:x;}", 0);
        matches("d{x & y}", Check.times("d{a:x;}", 14) + Check.times("d{a:y;}", 15), 0);
    }

    private static void emptyObject() {
        matches("*", "", 1);
        matches("!*", "", 0);
        matches("x", "", 0);
        matches("!x", "", 1);
        matches("[0..9999]", "", 0);
        matches("\"x\"~9", "", 0);
        matches("a{*}", "", 0);
        matches("!a{*}", "", 1);
        matches("#1(x,!x)", "", 1);
    }

    private static void candidate(String query, String object, int want) {
        PercolateSets sets = new PercolateSets();
        check.due("save of " + query, Check.save(sets, query), 0);
        check.due("object of " + object, Check.object(sets, 0, object) > 0 ? 1 : 0, 1);
        check.due(query + " is a CANDIDATE for " + object, sets.candidate(0, 0), want);
        check.due("nothing is counted by it", sets.count(4), 0);
        sets.run(0);
        check.due(query + " is tried with " + object, sets.count(4), want);
    }

    /** "CANDIDATES are the QUERIES that it MEETS, and NEEDLESS ones" */
    private static void needlessAreCandidates() {
        for (String query : new String[] {"*", "!x", "[1..2]", "x | *", "!c{x}", "c{[1..2]}", "!#3(x,y)", "#1(x,[1..2])"}) {
            candidate(query, "", 1);
            candidate(query, "a: o;", 1);
            candidate(query, "a: x; c{ a: x y 1; }", 1);
        }
    }

    private static void emptyNeedsAreNoCandidates() {
        for (String query : new String[] {"!*", "x & !*", "c{!*}", "#3(x,y)", "!(* | x)", "!#1(*)"}) {
            candidate(query, "", 0);
            candidate(query, "a: x y; c{ a: x y; }", 0);
            matches(query, "a: x y; c{ a: x y; }", 0);
        }
    }

    /** "An object MEETS a QUERY, if one of its words (of any UNIT and FIELD) is NEEDED" */
    private static void neededOfAnyUnitAndField() {
        candidate("a:x", "a: x;", 1);
        candidate("a:x", "d: x;", 1);
        candidate("a:x", "c{b{a{d{ d: o x; }}}}", 1);
        candidate("a:x", Check.times("b{}", 28) + "b{ c: x; }", 1);
        candidate("b{x}", "a: x;", 1);
        candidate("x", "a: xx x0 o; b{ c: w y; }", 0);
        candidate("abcdefghijkl", "a: abcdefghijk;", 0);
        candidate("abcdefghijk", "a: abcdefghijkl abcdefghijk0;", 0);
        StringBuilder words = new StringBuilder("a:");
        for (int i = 0; i < 119; i++) {
            words.append((char) ('a' + i / 10)).append(i % 10).append(' ');
        }
        for (String word : new String[] {"0", "m", "z", "a0", "l8"}) {
            candidate(word, words + word + ";", 1);
        }
        candidate("a", words + "z;", 0);
        candidate("l9", words + "z;", 0);
        candidate("z0", words + "z;", 0);
        candidate("0", words + "z;", 0);
    }

    /** "or begins with a NEEDED BEGINNING" */
    private static void neededBeginnings() {
        candidate("mm*", "b: mm;", 1);
        candidate("mm*", "b: mm0;", 1);
        candidate("mm*", "b: mmzzzzzzzzzz;", 1);
        candidate("mm*", "b: m ml mlzzzzzzzzzz mn mn0 0 z;", 0);
        candidate("z*", "b: zzzzzzzzzzzz;", 1);
        candidate("z*", "b: yzzzzzzzzzzz;", 0);
        candidate("0*", "b: 0;", 1);
        candidate("abcdefghijkl*", "b: abcdefghijkl;", 1);
        candidate("abcdefghijkl*", "b: abcdefghijkm abcdefghijkk abcdefghijk;", 0);
        candidate("x | mm*", "b: mmo;", 1);
        candidate("x & mm*", "b: mmo;", 0);
    }

    private static void candidatesNeedNotMatch() {
        PercolateSets sets = new PercolateSets();
        Check.save(sets, "longer & x");
        Check.save(sets, "a:longer");
        Check.save(sets, "\"longer x\"");
        Check.save(sets, "[1..2]");
        Check.object(sets, 0, "b: longer;");
        for (int q = 0; q < 4; q++) {
            check.due("candidate(" + q + ", 0)", sets.candidate(q, 0), 1);
            check.due("match(" + q + ", 0)", sets.match(q, 0), 0);
        }
        check.due("run(0)", sets.run(0), 0);
        check.due("CANDIDATES", sets.count(4), 4);
        check.due("NEEDLESS ones", sets.count(5), 1);
        check.due("MATCHED", sets.count(6), 0);
        check.due("ALERTS", sets.count(3), 0);
    }

    /** "How many QUERIES match an OBJECT, when each is tried. BAD: none such." */
    private static void triedOfFortyQueries() {
        PercolateSets sets = new PercolateSets();
        Check.object(sets, 11, "a: x;");
        for (int q = 0; q < 40; q++) {
            check.due("tried(11)", sets.tried(11), (q + 1) / 2);
            Check.save(sets, q % 2 == 0 ? "x" : "y");
        }
        check.due("tried(11)", sets.tried(11), 20);
        for (int key : new int[] {-1, 0, 10, 12, Integer.MIN_VALUE, Integer.MAX_VALUE}) {
            check.due("tried(" + key + ")", sets.tried(key), BAD);
        }
        check.due("nothing is told by it", sets.count(3), 0);
        check.due("nothing is counted by it", sets.count(4), 0);
        check.due("nothing is MATCHED by it", sets.matched(0), BAD);
    }

    /** "the k-th; - 1: how many (0: it does not match)": with the most words that an OBJECT can have. */
    private static void shownOfAll() {
        PercolateSets sets = new PercolateSets();
        Check.save(sets, "x");
        Check.object(sets, 0, "a:" + Check.times("x ", 120) + ";");
        check.due("how many", sets.shown(0, 0, -1), 120);
        for (int k = 0; k < 120; k++) {
            check.due("shown(0, 0, " + k + ")", sets.shown(0, 0, k), 2 + 2 * k);
        }
        check.due("shown(0, 0, 120)", sets.shown(0, 0, 120), BAD);
        check.due("shown(0, 0, -2)", sets.shown(0, 0, -2), BAD);
    }

    private static void shownFirstAndLastPlace() {
        shows("x", "a:x;", "2");
        shows("x", Check.times(" ", 596) + "a:x;", "598");
        shows("x", "a:x;" + Check.times(" ", 592) + "b:x;", "2 598");
        shows("abcdefghijkl", Check.times(" ", 585) + "a:abcdefghijkl;", "587");
    }

    /** "each once, rising": as they stand in the text, whatever their rows and UNITS are. */
    private static void shownOnce() {
        shows("x | x | x*", "a:x;", "2");
        shows("b:x | a:x", "b:x;a:x;b:x;", "2 6 10");
        shows("\"x x\" & x", "a:x x x;", "2 4 6");
        shows("a{x} & x", "d:x;a{d:x;}c:x;", "2 8 13");
        shows("#1(x,x,x)", "a:x;", "2");
        shows("[1..2] & 1*", "a:1 2 12;", "2 4 6");
    }

    /** "a " ": all words that are at some p of places as told" */
    private static void shownOfTogether() {
        shows("\"x y\"~1", "a:x x y y;", "2 4 6 8");
        shows("\"x y\"", "a:x x y y;", "4 6");
        shows("\"x y\"~2", "a:x o o y y;", "2 8");
        shows("\"x y\"~3", "a:x o o y y;", "2 8 10");
        shows("\"x y\"~1", "a:x o o y;", "");
        shows("\"x y z\"~1", "a:x y y z;", "2 4 6 8");
        shows("\"x y z\"~1", "a:x y z z z;", "2 4 6 8");
        shows("\"x y z\"~2", "a:x y z z z;", "2 4 6 8 10");
        shows("\"x x\"~1", "a:x x x o x;", "2 4 6 10");
        shows("\"x x\"", "a:x o x x;", "6 8");
        shows("\"x y x\"~1", "a:x y x y x;", "2 4 6 8 10");
        shows("\"x\"~9", "a:x y x;", "2 6");
        shows("\"a b c d e f\"", "a:a b c d e f;", "2 4 6 8 10 12");
        shows("\"x y\"", "a:x;b:x y;a:y;", "2 6 8 12");
        // What is ahead of the word before it, or behind the word behind it, is at no such place.
        shows("\"x y\"", "a:o y x y;", "6 8");
        shows("\"x y z\"~3", "a:x z y o z;", "2 6 10");
        shows("\"x y z\"~3", "a:x y z y o;", "2 4 6");
        shows("\"x y z\"~3", "a:z y x y z;", "6 8 10");
    }

    /** "! and * nothing" */
    private static void shownNothing() {
        shows("*", "a:x;", "");
        shows("!y", "a:x;", "");
        shows("!!x", "a:x;", "");
        shows("!(!x)", "a:x;", "");
        shows("!#2(x,y)", "a:x;", "");
        shows("x & !!x", "a:x;", "2");
        shows("x & *", "a:x;", "2");
        shows("x", "a:y;", "");
        shows("x & y", "a:x;", "");
        shows("x", "", "");
    }

    /** "At a UNIT, what does not hold SHOWS nothing" */
    private static void whatDoesNotHoldShowsNothing() {
        shows("x | y & z", "a:x y;", "2");
        shows("x | y & z", "a:x y z;", "2 4 6");
        shows("x | (y & (z | w))", "a:x y;", "2");
        shows("#2(x & q, y, z)", "a:x y z;", "4 6");
        shows("x | #2(y, z)", "a:x y;", "2");
        shows("x | #2(y, z, x)", "a:x y;", "2 4");
        shows("x | b{y & z}", "a:x; b{a:y;}", "2");
        shows("x | \"y z\"", "a:x y o z;", "2");
        shows("x | b:y", "a:x y;", "2");
    }

    /** "FIELD { }: what the either SHOWS at each of these PARTS" */
    private static void shownWithin() {
        shows("d{x}", Check.times("d{a:x;}", 3), "4 11 18");
        shows("d{x & y}", "d{a:x;}d{a:x y;}d{a:y;}", "11 13");
        shows("d{x}", "d{a:x;}c{a:x;}d{d{a:x;}}a:x;", "4");
        shows("d{d{x} | x}", "d{a:x;}c{a:x;}d{d{a:x;}}a:x;", "4 20");
        shows("a{b{c{d{x}}}}", "a{b{c{d{a:x;}}}}", "10");
        shows("d{x | *}", "d{a:y;}d{a:x;}", "11");
        shows("d{!x}", "d{a:y;}d{a:x;}", "");
    }

    /** match, candidate: "BAD: none such" */
    private static void matchOfNone() {
        PercolateSets sets = new PercolateSets();
        for (int q = 0; q < 40; q++) {
            Check.save(sets, "*");
        }
        Check.object(sets, 0, "");
        Check.object(sets, 11, "");
        check.due("match(39, 11)", sets.match(39, 11), 1);
        check.due("match(0, 0)", sets.match(0, 0), 1);
        check.due("candidate(39, 11)", sets.candidate(39, 11), 1);
        check.due("shown(39, 11, -1)", sets.shown(39, 11, -1), 0);
        sets.drop(20);
        for (int q : new int[] {-1, 20, 40, Integer.MIN_VALUE, Integer.MAX_VALUE}) {
            check.due("match(" + q + ", 11)", sets.match(q, 11), BAD);
            check.due("candidate(" + q + ", 11)", sets.candidate(q, 11), BAD);
            check.due("shown(" + q + ", 11, -1)", sets.shown(q, 11, -1), BAD);
            check.due("match(" + q + ", 12)", sets.match(q, 12), BAD);
        }
        for (int key : new int[] {-1, 1, 10, 12, Integer.MIN_VALUE, Integer.MAX_VALUE}) {
            check.due("match(39, " + key + ")", sets.match(39, key), BAD);
            check.due("candidate(39, " + key + ")", sets.candidate(39, key), BAD);
            check.due("shown(39, " + key + ", -1)", sets.shown(39, key, -1), BAD);
        }
    }

    /** shown: "BAD: none such" */
    private static void shownOfNone() {
        PercolateSets sets = new PercolateSets();
        Check.save(sets, "x");
        Check.save(sets, "y");
        Check.save(sets, "*");
        Check.object(sets, 3, "a:x o x;");
        int[] how = {2, 0, 0};
        for (int q = 0; q < 3; q++) {
            check.due("how many", sets.shown(q, 3, -1), how[q]);
            for (int k : new int[] {-3, -2, how[q], how[q] + 1, 119, 120, Integer.MIN_VALUE, Integer.MAX_VALUE}) {
                check.due("shown(" + q + ", 3, " + k + ")", sets.shown(q, 3, k), BAD);
            }
        }
        check.due("the first", sets.shown(0, 3, 0), 2);
        check.due("the last", sets.shown(0, 3, 1), 6);
    }
}
