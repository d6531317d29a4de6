/** The edges of an OBJECT's text: what may stand, and the FAULTS with their places (promises 7, 10, 12, 13). */
final class EdgeObjectTextTest {
    private static final Check check = new Check("EdgeObjectTextTest");

    private static final String RICH = " a: red  0012 ; b{ } c{ d:x; a{ b: y z;c:; } } d:;a:w; ";

    public static void main(String[] args) {
        emptyOnes();
        eachByteAlone();
        eachByteBehindAField();
        eachByteAmongWords();
        sixHundredBytes();
        blanks();
        everyPlaceOfAWrongByte();
        everyEnd();
        thirteenthSign();
        hundredTwentyFirstWord();
        thirtyFirstUnit();
        withinFourOthers();
        firstThatIsMet();
        rowsOfAUnit();
        unitsAreNumberedAsTheyBegin();
        check.end();
    }

    private static void good(String text, int units, int words) {
        check.goodObject(text, units, words);
    }

    private static void bad(String text, int kind, int place) {
        check.badObject(text, kind, place);
    }

    private static boolean isSign(int b) {
        return b >= 'a' && b <= 'z' || b >= '0' && b <= '9';
    }

    /** "object = {told}", "FIELD ':' {word} ';'": none at all may stand. */
    private static void emptyOnes() {
        good("", 1, 0);
        good(" ", 1, 0);
        good("a:;", 1, 0);
        good("a: ;", 1, 0);
        good("a{}", 2, 0);
        good("a{ }", 2, 0);
        good("a:;b:;c:;d:;", 1, 0);
        good("a{a:;}", 2, 0);
    }

    private static void eachByteAlone() {
        for (int b = 0; b < 256; b++) {
            if (b == ' ') {
                good(" ", 1, 0);
            } else {
                bad("" + (char) b, 1, b >= 'a' && b <= 'd' ? 1 : 0);
            }
        }
    }

    /** "a letter a .. d can stand where told begins: what is neither : nor { right behind it cannot" */
    private static void eachByteBehindAField() {
        for (char field = 'a'; field <= 'd'; field++) {
            for (int b = 0; b < 256; b++) {
                bad("" + field + (char) b, 1, b == ':' || b == '{' ? 2 : 1);
            }
            good(field + ":x;", 1, 1);
            good(field + "{}", 2, 0);
        }
        for (char other : new char[] {'e', 'z', '`', 'A', 'D', '0'}) {
            bad(other + ":x;", 1, 0);
            bad(other + "{}", 1, 0);
            bad("a{" + other + ":x;}", 1, 2);
        }
    }

    /** "WORDS are 1 .. 12 of the signs a .. z, 0 .. 9" */
    private static void eachByteAmongWords() {
        for (int b = 0; b < 256; b++) {
            String text = "a:m" + (char) b + "m;";
            if (isSign(b)) {
                good(text, 1, 1);
            } else if (b == ' ') {
                good(text, 1, 2);
            } else {
                bad(text, 1, b == ';' ? 4 : 3);
            }
        }
    }

    /** "AN OBJECT is a text of at most 600 bytes"; "2 at 600 ahead of all" */
    private static void sixHundredBytes() {
        String most = Check.times("a:abcdefghijkl;", 40);
        check.due("bytes", most.length(), 600);
        good(most, 1, 40);
        bad(most + " ", 2, 600);
        bad(most + "a:x;", 2, 600);
        good(Check.times(" ", 600), 1, 0);
        bad(Check.times(" ", 601), 2, 600);
        bad(Check.times(" ", 599) + "?", 1, 599);
        bad(Check.times(" ", 600) + "?", 2, 600);
        bad(Check.times(" ", 599) + "a", 1, 600);
        bad("?" + Check.times(" ", 599), 1, 0);
        bad("?" + Check.times(" ", 600), 2, 600);
        bad(Check.times("a{", 301), 2, 600);
        bad(Check.times(" ", 700), 2, 600);
        // A QUERY's 300 bytes are no bound here.
        good(Check.times(" ", 301), 1, 0);
        good("a:x;" + Check.times(" ", 400) + "b:y;", 1, 2);
    }

    /** "with blanks between any two, but for the signs of a word, and a FIELD and its : or {" */
    private static void blanks() {
        good("a:x y;b:z;c{d:w;}", 2, 4);
        good("  a:  x   y  ;  b:  z  ;  c{  d:  w  ;  }  ", 2, 4);
        bad("a :x;", 1, 1);
        bad("a {}", 1, 1);
        good("a:xx;", 1, 1);
        good("a:x x;", 1, 2);
        for (char other : new char[] {0, 9, 10, 13, 31, 33, 160}) {
            bad("a:x" + other + "y;", 1, 3);
            bad("a:x;" + other, 1, 4);
            bad("a{" + other + "}", 1, 2);
        }
    }

    /** A byte that can stand nowhere is the FAULT at each place of a text, if all ahead of it is right. */
    private static void everyPlaceOfAWrongByte() {
        good(RICH, 4, 6);
        for (int place = 0; place <= RICH.length(); place++) {
            bad(RICH.substring(0, place) + "?" + RICH.substring(place), 1, place);
            bad(RICH.substring(0, place) + (char) 255, 1, place);
        }
    }

    /** "its end at its end": each beginning of a right text is right itself, or its end cannot stand there. */
    private static void everyEnd() {
        for (int place = 0; place <= RICH.length(); place++) {
            String text = RICH.substring(0, place);
            String bare = text.stripTrailing();
            boolean isOpen = text.chars().filter(sign -> sign == '{').count() > text.chars().filter(sign -> sign == '}').count();
            boolean mayEnd = bare.isEmpty() || !isOpen && (bare.endsWith(";") || bare.endsWith("}"));
            PercolateSets sets = new PercolateSets();
            check.due("object of " + text, Check.object(sets, 0, text) > 0 ? 1 : 0, mayEnd ? 1 : 0);
            if (!mayEnd) {
                bad(text, 1, place);
            }
        }
    }

    /** "also the 13th sign of a word" */
    private static void thirteenthSign() {
        for (int signs = 1; signs <= 12; signs++) {
            good("d:" + "0123456789ab".substring(0, signs) + ";", 1, 1);
        }
        for (char more : new char[] {'a', 'd', 'z', '0', '9'}) {
            good("a:abcdefghijkl;", 1, 1);
            bad("a:abcdefghijkl" + more + ";", 1, 14);
            bad("a:x abcdefghijkl" + more + more + ";", 1, 16);
            bad("a:000000000000" + more + ";", 1, 14);
            bad("a{b:zzzzzzzzzzzz" + more + ";}", 1, 16);
        }
        good("a:abcdefghijkl 0123456789ab;", 1, 2);
    }

    /** "2 the 121st word (at its first byte)" */
    private static void hundredTwentyFirstWord() {
        String words = "a:" + Check.times("x ", 120);
        good(words + ";", 1, 120);
        bad(words + "x;", 2, 242);
        bad(words + "   x;", 2, 245);
        bad(words + "abcdefghijklm;", 2, 242);
        bad(words + "x?", 2, 242);
        bad(words + "?", 1, 242);
        bad(words, 1, 242);
        good(words + ";b:;c{d:;}", 2, 120);
        bad(words + ";b:y;", 2, 245);
        bad(words + ";b{c:  y;}", 2, 249);
        String rows = Check.times("a:x;b:y;c:z;d:w;", 30);
        good(rows, 1, 120);
        bad(rows + "c:x;", 2, 482);
        String units = Check.times("a{b:x y z w v;}", 24);
        good(units, 25, 120);
        bad(units + "a{b:x;}", 2, 364);
        // Like words count each time.
        PercolateSets sets = new PercolateSets();
        Check.object(sets, 0, words + ";");
        check.due("words", sets.about(0, 2), 120);
        check.due("different words", sets.about(0, 3), 1);
    }

    /** "the 31st UNIT .. (at its { )": the text itself is one. */
    private static void thirtyFirstUnit() {
        for (int many = 0; many <= 29; many++) {
            good(Check.times("b{}", many), many + 1, 0);
        }
        String thirty = Check.times("b{}", 29);
        bad(thirty + "b{}", 2, 88);
        bad(thirty + "  c{}", 2, 90);
        bad(thirty + "b{", 2, 88);
        bad(thirty + "b{?", 2, 88);
        bad(thirty + "b", 1, 88);
        bad(thirty + "b?", 1, 88);
        good(thirty + "b:x;", 30, 1);
        String nested = Check.times("b{c{d{}}}", 9) + "b{c{";
        good(nested + "}}", 30, 0);
        bad(nested + "a{", 2, nested.length() + 1);
    }

    /** "a UNIT within more than 4 others (at its { )": UNIT 0 is one of the others. */
    private static void withinFourOthers() {
        good("a{}", 2, 0);
        good("a{a{}}", 3, 0);
        good("a{a{a{}}}", 4, 0);
        good("a{a{a{a{}}}}", 5, 0);
        bad("a{a{a{a{a{}}}}}", 2, 9);
        bad("a{b{c{d{  a{}}}}}", 2, 11);
        bad("a{b{c{d{a{", 2, 9);
        bad("a{b{c{d{a{?", 2, 9);
        bad("a{b{c{d{a", 1, 9);
        bad("a{b{c{d{a?", 1, 9);
        good("a{b{c{d{a:x;}}}}", 5, 1);
        good("a{b{c{d{}d{}}c{d{}}}b{c{d{}}}}a{b{c{d{}}}}", 15, 0);
        bad("a{b{c{d{}d{}}c{d{}}}b{c{d{}}}}a{b{c{d{c{}}}}}", 2, 39);
    }

    private static void firstThatIsMet() {
        String words = "a:" + Check.times("x ", 120);
        bad("?" + words + "x;", 1, 0);
        bad("a:abcdefghijklm;" + Check.times("a{", 5), 1, 14);
        bad(Check.times("a{", 5) + "a:abcdefghijklm;", 2, 9);
        bad(words + "x;" + Check.times("a{", 5), 2, 242);
        bad(Check.times("a{", 5) + words + "x;", 2, 9);
    }

    /** "A UNIT has for each FIELD a row of words: those of all its : of this FIELD, in order." */
    private static void rowsOfAUnit() {
        PercolateSets sets = new PercolateSets();
        Check.object(sets, 4, "b:p;d:q q;b{b:r r r;}b:s;a:;d:t;");
        int[][] want = {{0, 2, 0, 3}, {0, 3, 0, 0}};
        for (int u = 0; u < 2; u++) {
            for (int field = 0; field < 4; field++) {
                check.due("unit(4, " + u + ", " + (2 + field) + ")", sets.unit(4, u, 2 + field), want[u][field]);
            }
        }
        Check.save(sets, "b:\"p s\"");
        Check.save(sets, "b:\"s p\"");
        Check.save(sets, "d:\"q q t\"");
        check.due("one row in order", sets.match(0, 4), 1);
        check.due("not against the order", sets.match(1, 4), 0);
        check.due("another row", sets.match(2, 4), 1);
    }

    /** "the text is UNIT 0; each { } is a UNIT, a PART of the one around it, by its FIELD; they are numbered as they begin" */
    private static void unitsAreNumberedAsTheyBegin() {
        PercolateSets sets = new PercolateSets();
        check.due("object", Check.object(sets, 0, "a{b{c{d{}}a{}}d{}}c{}" + Check.times("b{}", 22)), 30);
        int[] around = {PercolateSets.NONE, 0, 1, 2, 3, 2, 1, 0};
        int[] fields = {PercolateSets.NONE, 0, 1, 2, 3, 0, 3, 2};
        for (int u = 0; u < around.length; u++) {
            check.due("around " + u, sets.unit(0, u, 0), around[u]);
            check.due("field of " + u, sets.unit(0, u, 1), fields[u]);
        }
        check.due("around the last", sets.unit(0, 29, 0), 0);
        check.due("field of the last", sets.unit(0, 29, 1), 1);
        check.due("behind the last", sets.unit(0, 30, 0), PercolateSets.BAD);
    }
}
