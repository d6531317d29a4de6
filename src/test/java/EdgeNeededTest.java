/** The edges of part 3 and of promises 8 and 9: NEEDED, WEIGHT, COST, ORDER. */
final class EdgeNeededTest {
    private static final int BAD = PercolateSets.BAD, NONE = PercolateSets.NONE;
    private static final Check check = new Check("EdgeNeededTest");

    public static void main(String[] args) {
        weights();
        allAndEmpty();
        costOfAllIsGreatest();
        costCountsLikeOnesOnce();
        likeCostsOfBoth();
        likeCostsOfAGreatSet();
        likeWeightsOfAText();
        likeCostsOfACount();
        eachNumberOfACount();
        eachNumberOfATurnedCount();
        partsOfACountThatAreAll();
        turnedParts();
        turnedTwice();
        order();
        sixtyDifferent();
        whatOfAQuery();
        signsOfANeeded();
        noNeeded();
        differentOfAllQueries();
        manyDifferentOfAllQueries();
        check.end();
    }

    private static void needs(String text, String want, int cost) {
        PercolateSets sets = new PercolateSets();
        check.due("save of " + text, Check.save(sets, text), 0);
        check.text("needed of " + text, Check.neededOf(sets, 0), want);
        int many = want.isEmpty() ? 0 : want.split(" ").length;
        check.due("how many of " + text, sets.query(0, 1), many);
        check.due("cost of " + text, sets.query(0, 2), cost);
        check.due("needless ones", sets.count(1), 0);
        check.due("different ones", sets.count(7), many);
        check.due("one more", sets.needed(0, many, -1), BAD);
    }

    private static void needsAll(String text) {
        PercolateSets sets = new PercolateSets();
        check.due("save of " + text, Check.save(sets, text), 0);
        check.due("how many of " + text, sets.query(0, 1), NONE);
        check.due("cost of " + text, sets.query(0, 2), NONE);
        check.due("needless ones", sets.count(1), 1);
        check.due("different ones", sets.count(7), 0);
        check.due("needed(0, 0, -1) of " + text, sets.needed(0, 0, -1), BAD);
    }

    private static void needsNothing(String text) {
        needs(text, "", 0);
        PercolateSets sets = new PercolateSets();
        Check.save(sets, text);
        Check.object(sets, 0, "a: x red blue; b{ c: 1; }");
        check.due(text + " is no CANDIDATE", sets.candidate(0, 0), 0);
        check.due(text + " does not match", sets.match(0, 0), 0);
    }

    /** "WEIGHT of a word is 24 less its length, of a BEGINNING 40 less" */
    private static void weights() {
        String signs = "abcdefghijkl";
        for (int length = 1; length <= 12; length++) {
            String word = signs.substring(0, length);
            needs(word, word, 24 - length);
            needs(word + "*", word + "*", 40 - length);
            needs("d:" + word, word, 24 - length);
            needs("\"" + word + "\"", word, 24 - length);
        }
    }

    /** "COST of a set the sum (0 of an empty one)"; "or ALL (it is NEEDLESS of them)" */
    private static void allAndEmpty() {
        needsAll("*");
        needsAll("[0..9999]");
        needsNothing("!*");
        needsNothing("!* | !*");
        needsAll("* & *");
        needsNothing("* & !*");
        needsNothing("!* & *");
        needsNothing("red & !*");
        needsNothing("!* & red");
        needs("red | !*", "red", 21);
        needs("!* | red", "red", 21);
        needsAll("* | !*");
        needsAll("!* | *");
        needsAll("red | *");
        needsAll("* | red");
        needs("red & *", "red", 21);
        needs("* & red", "red", 21);
        needsNothing("a{ !* }");
        needsAll("a{ * }");
        needsAll("! a{ * }");
        needsAll("! a{ !* }");
    }

    /** "of ALL it is greater than all others": also than that of the dearest set, 59 BEGINNINGS. */
    private static void costOfAllIsGreatest() {
        StringBuilder dearest = new StringBuilder();
        String signs = "0123456789abcdefghijklmnopqrstuvwxyz";
        int cost = 0;
        for (int i = 0; i < 59; i++) {
            String word = i < 36 ? signs.substring(i, i + 1) : "a" + signs.charAt(i - 36);
            dearest.append(i == 0 ? "" : "|").append(word).append('*');
            cost += 40 - word.length();
        }
        for (String text : new String[] {"(" + dearest + ")&*", "*&(" + dearest + ")", "#2(*," + dearest + ")"}) {
            PercolateSets sets = new PercolateSets();
            check.due("save", Check.save(sets, text), 0);
            check.due("how many", sets.query(0, 1), 59);
            check.due("cost", sets.query(0, 2), cost);
        }
        needsAll("#1(*," + dearest + ")");
    }

    /** "a set of words and BEGINNINGS": a like one is in it once, a word and a BEGINNING are different. */
    private static void costCountsLikeOnesOnce() {
        needs("red | red", "red", 21);
        needs("red | a:red | \"red a\" | c{red}", "red", 21);
        needs("red* | red* | red", "red red*", 37 + 21);
        needs("(red | red | red) & blue*", "red", 21);
        needs("#1(red, red, red)", "red", 21);
        needs("#2(red | red, old, red)", "old red", 42);
        // Like ones in one set cost once: 21 against 22.
        needs("(red | red) & ab", "red", 21);
        needs("ab & (red | red)", "red", 21);
    }

    /** "The LEAST of sets: that of the least COST, of like ones the first." */
    private static void likeCostsOfBoth() {
        needs("red & old", "red", 21);
        needs("old & red", "old", 21);
        needs("red & old & new", "red", 21);
        needs("old & red & abcd", "abcd", 20);
        needs("abcd & red & bcde", "abcd", 20);
        needs("ab & red & old & bc", "red", 21);
        needs("red & (old & new)", "red", 21);
        needs("!(!red | !old)", "red", 21);
        needs("!(!old | !red | !new)", "old", 21);
        needs("a{ red & old }", "red", 21);
    }

    /** Like COSTS of a set of two and of a BEGINNING: 17 + 16 = 33 = 40 - 7; and one less, one more. */
    private static void likeCostsOfAGreatSet() {
        needs("abcdefg* & (bcdefgh | abcdefgh)", "abcdefg*", 33);
        needs("(bcdefgh | abcdefgh) & abcdefg*", "abcdefgh bcdefgh", 33);
        needs("abcdef* & (bcdefgh | abcdefgh)", "abcdefgh bcdefgh", 33);
        needs("(bcdefgh | abcdefgh) & abcdefgh*", "abcdefgh*", 32);
    }

    /** "" ": its word of least WEIGHT (of like ones the first)": the longest, the first of like lengths. */
    private static void likeWeightsOfAText() {
        needs("\"red old\"", "red", 21);
        needs("\"old red\"", "old", 21);
        needs("\"red old newer\"", "newer", 19);
        needs("\"a bb cc b\"", "bb", 22);
        needs("\"a b c d e f\"", "a", 23);
        needs("\"a b c d e ff\"", "ff", 22);
        needs("\"aa b c d e ff\"", "aa", 22);
        needs("\"abcdefghijk abcdefghijkl zzzzzzzzzzzz\"~3", "abcdefghijkl", 12);
        needs("\"zz 00\"", "zz", 22);
    }

    /** "the UNION of the k - m + 1 of least COST (of like ones the first)" */
    private static void likeCostsOfACount() {
        needs("#3(red, old, new)", "red", 21);
        needs("#2(red, old, new)", "old red", 42);
        needs("#1(red, old, new)", "new old red", 63);
        needs("#2(new, old, red)", "new old", 42);
        needs("#2(new, abcd, red, old)", "abcd new red", 62);
        needs("#3(new, abcd, red, old)", "abcd new", 41);
        needs("#4(new, abcd, red, old)", "abcd", 20);
        needs("!#1(!red, !old, !new)", "red", 21);
        needs("!#2(!red, !old, !new)", "old red", 42);
        needs("#2(abcdefg*, bcdefgh | abcdefgh)", "abcdefg*", 33);
        needs("#2(bcdefgh | abcdefgh, abcdefg*)", "abcdefgh bcdefgh", 33);
        // Like ones with a NEEDED set of none: it costs 0.
        needs("#2(!*, red, !*)", "", 0);
        needs("#1(!*, red, !*)", "red", 21);
    }

    /** "# n of k parts: with m = n the parts' plainly ..: m above k: empty" */
    private static void eachNumberOfACount() {
        String[] words = {"w", "vw", "uvw", "tuvw", "stuvw", "rstuvw", "qrstuvw", "pqrstuvw"};
        for (int k = 1; k <= 8; k++) {
            String parts = String.join(", ", java.util.Arrays.copyOf(words, k));
            for (int n = 1; n <= 9; n++) {
                String text = "#" + n + "(" + parts + ")";
                if (n > k) {
                    needsNothing(text);
                    continue;
                }
                int cost = 0;
                StringBuilder want = new StringBuilder();
                for (int length = k; length >= n; length--) {
                    cost += 24 - length;
                    want.append(length == k ? "" : " ").append(words[length - 1]);
                }
                needs(text, want.toString(), cost);
            }
        }
    }

    /** "TURNED with m = k - n + 1 the parts' TURNED: m not above 0: ALL" */
    private static void eachNumberOfATurnedCount() {
        String[] words = {"!w", "!vw", "!uvw", "!tuvw", "!stuvw", "!rstuvw", "!qrstuvw", "!pqrstuvw"};
        for (int k = 1; k <= 8; k++) {
            String parts = String.join(", ", java.util.Arrays.copyOf(words, k));
            for (int n = 1; n <= 9; n++) {
                String text = "!#" + n + "(" + parts + ")";
                if (n > k) {
                    needsAll(text);
                    continue;
                }
                int cost = 0;
                StringBuilder want = new StringBuilder();
                for (int length = k; length > k - n; length--) {
                    cost += 24 - length;
                    want.append(length == k ? "" : " ").append(words[length - 1].substring(1));
                }
                needs(text, want.toString(), cost);
            }
        }
        needsAll("!#2(*)");
        needsNothing("!#1(*)");
        needsAll("!#9(" + Check.times("*,", 7) + "*)");
        needsNothing("!#9(" + Check.times("*,", 8) + "*)");
    }

    /** "UNION: all of them; ALL, if one is ALL": one that is ALL is taken last. */
    private static void partsOfACountThatAreAll() {
        needsAll("#1(*, red, old)");
        needs("#2(*, red, old)", "old red", 42);
        needs("#3(*, red, old)", "red", 21);
        needsAll("#2(*, red, [1..2])");
        needs("#3(*, red, [1..2])", "red", 21);
        needsAll("#3(*, *, [1..2])");
        needsNothing("#4(*, *, [1..2])");
        needs("#2(!red, old)", "old", 21);
        needsAll("#1(!red, old)");
        needsAll("!#1(red, old)");
        needsAll("!#2(red, !old)");
        needs("!#1(red, !old)", "old", 21);
    }

    /** "a word: it; TURNED ALL. A BEGINNING likewise. " ": ..; TURNED ALL. [ ]: ALL, both. * : ALL; TURNED empty." */
    private static void turnedParts() {
        needsAll("!red");
        needsAll("!a:red");
        needsAll("!red*");
        needsAll("!\"red old\"");
        needsAll("[1..2]");
        needsAll("![1..2]");
        needsAll("*");
        needsNothing("!*");
        needs("c{ red }", "red", 21);
        needsAll("!c{ red }");
        needsAll("!c{ !red }");
        needsAll("c{ !red }");
        needsAll("!(red & !old)");
        needs("!(!red & !old)", "old red", 42);
        needs("!(!red | old)", "red", 21);
        needsAll("!(red | old)");
        needsNothing("!(* | old)");
        needsAll("!(* & old)");
        needs("!(* & !old)", "old", 21);
    }

    /** "! turns what it had" */
    private static void turnedTwice() {
        for (int turns = 0; turns <= 10; turns++) {
            String text = Check.times("!", turns);
            if (turns % 2 == 0) {
                needs(text + "red", "red", 21);
                needsAll(text + "*");
                needs(text + "c{red}", "red", 21);
            } else {
                needsAll(text + "red");
                needsNothing(text + "*");
                needsAll(text + "c{!red}");
            }
            needsAll(text + "[1..2]");
        }
        needsAll(Check.times("!", 11) + "red");
        needs(Check.times("!", 12) + "red", "red", 21);
        needs("!c{red} & old", "old", 21);
        needs("!!c{!!red}", "red", 21);
        needs("!(!red & !(old & !new))", "old red", 42);
    }

    /** "ORDER of words: by the first sign that differs (digits before letters), the shorter one first if it is the beginning" */
    private static void order() {
        String signs = "0123456789abcdefghijklmnopqrstuvwxyz";
        StringBuilder text = new StringBuilder();
        StringBuilder want = new StringBuilder();
        int cost = 0;
        for (int i = 0; i < 36; i++) {
            text.append(i == 0 ? "" : "|").append(signs.charAt(35 - i));
            want.append(i == 0 ? "" : " ").append(signs.charAt(i));
            cost += 23;
        }
        needs(text.toString(), want.toString(), cost);
        needs("b | a | aa | 9 | a9", "9 a a9 aa b", 23 + 23 + 22 + 22 + 23);
        needs("z9 | z | yz", "yz z z9", 22 + 23 + 22);
        // "of like ones the word is before the BEGINNING"
        needs("a* | a", "a a*", 62);
        needs("a | a*", "a a*", 62);
        needs("ab | a* | a", "a a* ab", 84);
        needs("a0 | a*", "a* a0", 61);
        needs("a0* | a0 | a* | a", "a a* a0 a0*", 23 + 39 + 22 + 38);
        needs("abcdefghijkl* | abcdefghijkl | abcdefghijk* | abcdefghijkm",
            "abcdefghijk* abcdefghijkl abcdefghijkl* abcdefghijkm", 29 + 12 + 28 + 12);
        needs("000000000000 | 0 | zzzzzzzzzzzz | zzzzzzzzzzz", "0 000000000000 zzzzzzzzzzz zzzzzzzzzzzz", 23 + 12 + 13 + 12);
    }

    /** The most that can be NEEDED: 60 leaves, all different. */
    private static void sixtyDifferent() {
        StringBuilder text = new StringBuilder();
        for (int i = 59; i >= 0; i--) {
            text.append((char) ('a' + i / 10)).append(i % 10).append(i == 0 ? "" : "|");
        }
        PercolateSets sets = new PercolateSets();
        check.due("save", Check.save(sets, text.toString()), 0);
        check.due("how many", sets.query(0, 1), 60);
        check.due("cost", sets.query(0, 2), 60 * 22);
        check.due("leaves", sets.query(0, 3), 60);
        check.due("different ones", sets.count(7), 60);
        for (int k = 0; k < 60; k++) {
            check.due("sign 0 of " + k, sets.needed(0, k, 0), 'a' + k / 10);
            check.due("sign 1 of " + k, sets.needed(0, k, 1), '0' + k % 10);
        }
        check.due("needed(0, 60, -1)", sets.needed(0, 60, -1), BAD);
        check.due("needed(0, -1, -1)", sets.needed(0, -1, -1), BAD);
        Check.object(sets, 0, "a: e9 g0 zz;");
        check.due("the last but ten is met", sets.candidate(0, 0), 1);
        Check.object(sets, 0, "a: f9;");
        check.due("the last is met", sets.candidate(0, 0), 1);
        Check.object(sets, 0, "a: g0;");
        check.due("none is met", sets.candidate(0, 0), 0);
    }

    /** query: "0 its SERIAL, 1 how many are NEEDED (NONE: NEEDLESS), 2 their COST (NONE), 3 its LEAVES. BAD: none such." */
    private static void whatOfAQuery() {
        PercolateSets sets = new PercolateSets();
        Check.save(sets, "red | x*");
        Check.save(sets, "* | *");
        Check.save(sets, "!*");
        int[][] want = {{1, 2, 60, 2}, {2, NONE, NONE, 2}, {3, 0, 0, 1}};
        for (int q = 0; q < 3; q++) {
            for (int what = 0; what < 4; what++) {
                check.due("query(" + q + ", " + what + ")", sets.query(q, what), want[q][what]);
            }
            for (int what : new int[] {-2, -1, 4, 5, Integer.MIN_VALUE, Integer.MAX_VALUE}) {
                check.due("query(" + q + ", " + what + ")", sets.query(q, what), BAD);
            }
        }
        for (int q : new int[] {-1, 3, 39, 40, 41, Integer.MIN_VALUE, Integer.MAX_VALUE}) {
            for (int what = -1; what <= 4; what++) {
                check.due("query(" + q + ", " + what + ")", sets.query(q, what), BAD);
            }
        }
    }

    /** needed: "sign i; i = - 1: how many; - 2: 1 a BEGINNING, 0 a word. BAD: none such." */
    private static void signsOfANeeded() {
        String signs = "a0z9b8y7c6x5";
        for (int length = 1; length <= 12; length++) {
            PercolateSets sets = new PercolateSets();
            Check.save(sets, signs.substring(0, length));
            Check.save(sets, signs.substring(0, length) + "*");
            for (int q = 0; q < 2; q++) {
                check.due("kind", sets.needed(q, 0, -2), q);
                check.due("length", sets.needed(q, 0, -1), length);
                for (int i = 0; i < length; i++) {
                    check.due("sign " + i, sets.needed(q, 0, i), signs.charAt(i));
                }
                for (int i : new int[] {-3, length, length + 1, 12, 13, Integer.MIN_VALUE, Integer.MAX_VALUE}) {
                    check.due("needed(" + q + ", 0, " + i + ")", sets.needed(q, 0, i), BAD);
                }
            }
        }
    }

    private static void noNeeded() {
        PercolateSets sets = new PercolateSets();
        Check.save(sets, "x | y");
        Check.save(sets, "*");
        Check.save(sets, "!*");
        for (int i = -2; i <= 0; i++) {
            check.due("the first", sets.needed(0, 0, i) != BAD ? 1 : 0, 1);
            check.due("the last", sets.needed(0, 1, i) != BAD ? 1 : 0, 1);
            for (int k : new int[] {-1, 2, 60, 64, Integer.MIN_VALUE, Integer.MAX_VALUE}) {
                check.due("needed(0, " + k + ", " + i + ")", sets.needed(0, k, i), BAD);
            }
            for (int q : new int[] {-1, 1, 2, 3, 39, 40, Integer.MIN_VALUE, Integer.MAX_VALUE}) {
                check.due("needed(" + q + ", 0, " + i + ")", sets.needed(q, 0, i), BAD);
            }
        }
    }

    /** count: "7 different words and BEGINNINGS that are NEEDED by QUERIES" */
    private static void differentOfAllQueries() {
        PercolateSets sets = new PercolateSets();
        check.due("of none", sets.count(7), 0);
        for (int q = 0; q < 40; q++) {
            Check.save(sets, q % 2 == 0 ? "w" + q / 2 : "w" + q / 2 + "*|w" + q / 2);
        }
        check.due("20 words and their BEGINNINGS", sets.count(7), 40);
        sets.drop(39);
        check.due("without w19*", sets.count(7), 39);
        sets.drop(38);
        check.due("without w19", sets.count(7), 38);
        sets.drop(0);
        check.due("w0 is NEEDED still", sets.count(7), 38);
        Check.save(sets, "* | fresh");
        check.due("a NEEDLESS one", sets.count(7), 38);
        Check.change(sets, 0, "fresh & x");
        check.due("one of two", sets.count(7), 39);
        Check.change(sets, 0, "fresh &");
        check.due("a FAULT", sets.count(7), 39);
    }

    /** 20 QUERIES of 60 words each, all of them different; then two with like ones. */
    private static void manyDifferentOfAllQueries() {
        String signs = "0123456789abcdefghijklmnopqrstuvwxyz";
        PercolateSets sets = new PercolateSets();
        for (int q = 0; q < 20; q++) {
            StringBuilder text = new StringBuilder();
            for (int i = 60 * q; i < 60 * q + 60; i++) {
                text.append(i % 60 == 0 ? "" : "|").append(signs.charAt(i % 36)).append(signs.charAt(i / 36));
            }
            check.due("save", Check.save(sets, text.toString()), q);
            check.due("different ones", sets.count(7), 60 * q + 60);
        }
        Check.save(sets, "00 | 10 | zz");
        check.due("one is new", sets.count(7), 1201);
        sets.drop(0);
        check.due("58 went", sets.count(7), 1143);
    }
}
