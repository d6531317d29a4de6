/** The edges of a QUERY's text: what may stand, and the FAULTS with their places (promises 4, 5, 7). */
final class EdgeQueryTextTest {
    private static final Check check = new Check("EdgeQueryTextTest");

    /** Every kind of part, with blanks wherever they may stand. */
    private static final String RICH =
        " a: red & ! ( b:blue* | c{ d:\" x  yy \"~9 } ) | #2 ( [3..40] , * , ! q & \"z\" ) & d{ a{ [0..9999] } } ";

    public static void main(String[] args) {
        eachByteAlone();
        eachByteBehindAWord();
        signsOfAWord();
        fields();
        threeHundredBytes();
        blanks();
        noBlanks();
        everyPlaceOfAWrongByte();
        everyEnd();
        thirteenthSign();
        digitsOfACount();
        digitBehindTilde();
        fifthDigit();
        sixtyFirstLeaf();
        leavesThatCount();
        seventhWord();
        twentyFirstPart();
        partsOfEachCountByItself();
        withinTwelve();
        withinTwelveOfAllKinds();
        closedOnesDoNotCount();
        secondNumberBelow();
        firstThatIsMet();
        check.end();
    }

    private static void good(String text) {
        check.goodQuery(text);
    }

    private static void bad(String text, int kind, int place) {
        check.badQuery(text, kind, place);
    }

    private static boolean isSign(int b) {
        return b >= 'a' && b <= 'z' || b >= '0' && b <= '9';
    }

    /** "1 a byte that cannot stand there, at it, its end at its end": each of the 256 bytes as the whole text. */
    private static void eachByteAlone() {
        for (int b = 0; b < 256; b++) {
            String text = "" + (char) b;
            if (isSign(b) || b == '*') {
                good(text);
            } else {
                bad(text, 1, " !(\"[#".indexOf(b) >= 0 ? 1 : 0);
            }
        }
    }

    private static void eachByteBehindAWord() {
        for (int b = 0; b < 256; b++) {
            String text = "e" + (char) b;
            if (isSign(b) || b == '*' || b == ' ') {
                good(text);
            } else {
                bad(text, 1, b == '|' || b == '&' ? 2 : 1);
            }
        }
    }

    /** "WORDS are 1 .. 12 of the signs a .. z, 0 .. 9": within a " " nothing else can stand but the blank and the ". */
    private static void signsOfAWord() {
        for (int b = 0; b < 256; b++) {
            String text = "\"m" + (char) b + "m\"";
            if (isSign(b) || b == ' ') {
                good(text);
            } else {
                bad(text, 1, b == '"' ? 3 : 2);
            }
        }
    }

    /** "FIELDS are a, b, c, d" and "a FIELD is one only with : or { right behind it, and only where it may stand here". */
    private static void fields() {
        for (int b = 0; b < 256; b++) {
            boolean isField = b >= 'a' && b <= 'd';
            if (isField) {
                good((char) b + ":x");
                good((char) b + "{x}");
                good("" + (char) b);
                good((char) b + "*");
            } else if (isSign(b)) {
                bad((char) b + ":x", 1, 1);
                bad((char) b + "{x}", 1, 1);
            }
        }
        bad("`:x", 1, 0);
        bad("A:x", 1, 0);
        bad("aa:x", 1, 2);
        bad("aa{x}", 1, 2);
        bad("a:a:x", 1, 3);
        bad("a:a{x}", 1, 3);
        bad("a: a:x", 1, 4);
        good("a:a");
        good("a:a*");
        good("a{a:a}");
        good("a{a{a}}");
        bad("a:", 1, 2);
        bad("a{", 1, 2);
        bad("a::x", 1, 2);
        bad("a:{x}", 1, 2);
        bad("a{:x}", 1, 2);
        bad("\"a:x\"", 1, 2);
        bad("\"a{x\"", 1, 2);
        for (String noLeaf : new String[] {"*", "(x)", "!x", "#1(x)", ")", "}", ",", "|", "&", "~", "]"}) {
            bad("d:" + noLeaf, 1, 2);
            bad("d:  " + noLeaf, 1, 4);
        }
        good("d:  x");
        good("d:  \"x\"");
        good("d:  [1..2]");
    }

    /** "a text of more than 300 bytes: 2, at 300, ahead of all" */
    private static void threeHundredBytes() {
        String words = Check.times("abcdefgh | ", 27);
        String most = words + "a:b";
        check.due("bytes", most.length(), 300);
        good(most);
        bad(most + "c", 2, 300);
        bad(most + " ", 2, 300);
        good(Check.times(" ", 299) + "a");
        bad(Check.times(" ", 300) + "a", 2, 300);
        bad(Check.times(" ", 299) + "?", 1, 299);
        bad(Check.times(" ", 300), 1, 300);
        bad(Check.times(" ", 301), 2, 300);
        bad("?" + Check.times(" ", 299), 1, 0);
        bad("?" + Check.times(" ", 300), 2, 300);
        bad("[2..1]" + Check.times(" ", 294), 3, 4);
        bad("[2..1]" + Check.times(" ", 295), 2, 300);
        bad(Check.times("!", 300), 2, 13);
        bad(Check.times("!", 301), 2, 300);
        bad(Check.times("a", 640), 2, 300);
        bad(Check.times("a", 700), 2, 300);
    }

    /** "between any two of its parts blanks (32) may stand" */
    private static void blanks() {
        good("a|b&c");
        good("a | b & c");
        good("  a   |   b   &   c  ");
        good("!  !  ( a )");
        good("#2  (  a  ,  b  )");
        good("a{  b  }");
        good("a:  b");
        good("\"  a   b  \"");
        good("\"a\"");
        bad("\"ab\"c", 1, 4);
        for (char other : new char[] {0, 9, 10, 13, 31, 33, 160}) {
            bad("a" + other + "|b", 1, 1);
            bad("a|" + other, 1, other == '!' ? 3 : 2);
            bad("\"a" + other + "b\"", 1, 2);
        }
    }

    /** "the signs of a word, a * , ~ and its digit, all of a [ ] stand without blanks"; "no blank behind the #" */
    private static void noBlanks() {
        bad("a b", 1, 2);
        bad("a *", 1, 2);
        bad("\"a\" ~1", 1, 4);
        bad("\"a\"~ 1", 1, 4);
        bad("[ 3..4]", 1, 1);
        bad("[3 ..4]", 1, 2);
        bad("[3. .4]", 1, 3);
        bad("[3.. 4]", 1, 4);
        bad("[3..4 ]", 1, 5);
        bad("[3 3..44]", 1, 2);
        bad("# 2(a)", 1, 1);
        bad("a :b", 1, 2);
        bad("a {b}", 1, 2);
    }

    /** A byte that can stand nowhere is the FAULT at each place of a text, if all ahead of it is right. */
    private static void everyPlaceOfAWrongByte() {
        good(RICH);
        for (int place = 0; place <= RICH.length(); place++) {
            bad(RICH.substring(0, place) + "?" + RICH.substring(place), 1, place);
            bad(RICH.substring(0, place) + (char) 255, 1, place);
        }
    }

    /** "its end at its end": each beginning of a right text is right itself, or its end cannot stand there. */
    private static void everyEnd() {
        for (int place = 0; place <= RICH.length(); place++) {
            String text = RICH.substring(0, place);
            if (mayEnd(text)) {
                good(text);
            } else {
                bad(text, 1, place);
            }
        }
    }

    /** Only ahead of the first ( and behind the last ) or } no bracket is open; there a word or bracket ends a query. */
    private static boolean mayEnd(String text) {
        int open = 0;
        boolean inQuotes = false;
        for (char sign : text.toCharArray()) {
            inQuotes ^= sign == '"';
            open += "({[".indexOf(sign) >= 0 ? 1 : ")}]".indexOf(sign) >= 0 ? -1 : 0;
        }
        String bare = text.stripTrailing();
        char last = bare.isEmpty() ? 0 : bare.charAt(bare.length() - 1);
        return open == 0 && !inQuotes && (isSign(last) && !bare.endsWith("#2") || last == '*' || last == ')' || last == '}');
    }

    /** "(also the 13th sign of a word, the 5th digit)" */
    private static void thirteenthSign() {
        String twelve = "abcdefghijkl";
        String digits = "012345678901";
        for (String word : new String[] {twelve, digits, "zzzzzzzzzzzz"}) {
            for (char more : new char[] {'a', 'm', 'z', '0', '9'}) {
                good(word);
                bad(word + more, 1, 12);
                good(word + "*");
                bad(word + more + "*", 1, 12);
                bad(word + more + more, 1, 12);
                good("b:" + word);
                bad("b:" + word + more, 1, 14);
                good("\"" + word + "\"");
                bad("\"" + word + more + "\"", 1, 13);
                good("\"x " + word + " " + word + "\"");
                bad("\"x " + word + " " + word + more + "\"", 1, 28);
            }
        }
        bad(twelve + "d:x", 1, 12);
        bad(twelve + "d{x}", 1, 12);
    }

    /** "'#' digit '('": "a digit 1 .. 9" */
    private static void digitsOfACount() {
        for (int b = 0; b < 256; b++) {
            if (b >= '1' && b <= '9') {
                good("#" + (char) b + "(a)");
            } else {
                bad("#" + (char) b + "(a)", 1, 1);
            }
        }
        bad("#10(a)", 1, 2);
        bad("#1", 1, 2);
        bad("#1a(b)", 1, 2);
        bad("#", 1, 1);
    }

    /** "the ~ is 0 .. 9" */
    private static void digitBehindTilde() {
        for (int b = 0; b < 256; b++) {
            if (b >= '0' && b <= '9') {
                good("\"a b\"~" + (char) b);
            } else {
                bad("\"a b\"~" + (char) b, 1, 6);
            }
        }
        bad("\"a b\"~", 1, 6);
        bad("\"a b\"~10", 1, 7);
        bad("\"a b\"~~1", 1, 6);
        bad("\"a b\"~1~1", 1, 7);
        bad("a~1", 1, 1);
        bad("a*~1", 1, 2);
        bad("[1..2]~1", 1, 6);
    }

    /** "a number has 1 to 4 digits" */
    private static void fifthDigit() {
        String digits = "0000";
        for (int many = 1; many <= 4; many++) {
            good("[" + digits.substring(0, many) + "..0]");
            good("[0.." + digits.substring(0, many) + "]");
            good("[" + "9999".substring(0, many) + ".." + "9999".substring(0, many) + "]");
        }
        bad("[00000..0]", 1, 5);
        bad("[0..00000]", 1, 8);
        bad("[99999..0]", 1, 5);
        bad("[9999..00000]", 1, 11);
        bad("[9999..99999]", 1, 11);
        bad("[..0]", 1, 1);
        bad("[0..]", 1, 4);
        bad("[]", 1, 1);
        bad("[0]", 1, 2);
        bad("[0.0]", 1, 3);
        bad("[0...0]", 1, 4);
        for (char around : new char[] {'/', ':', 'a', '-', '+'}) {
            bad("[" + around + "..0]", 1, 1);
            bad("[0" + around + "..0]", 1, 2);
            bad("[0.." + around + "]", 1, 4);
            bad("[0..0" + around + "]", 1, 5);
        }
    }

    /** "the 61st LEAF (leaves, and * for all), at its first byte (behind its FIELD : )" */
    private static void sixtyFirstLeaf() {
        String sixty = Check.times("a|", 60);
        String[] leaves = {"a", "a*", "*", "\"a b\"~3", "[1..2]", "d", "abcdefghijkl"};
        for (String leaf : leaves) {
            good(sixty.substring(2) + leaf);
            bad(sixty + leaf, 2, 120);
            bad(sixty + "   " + leaf, 2, 123);
            bad(sixty + "!" + leaf, 2, 121);
            bad(sixty + "(" + leaf + ")", 2, 121);
            bad(sixty + "c{" + leaf + "}", 2, 122);
            bad(sixty + "#1(" + leaf + ")", 2, 123);
            if (!leaf.equals("*")) {
                good(sixty.substring(2) + "b:" + leaf);
                bad(sixty + "b:" + leaf, 2, 122);
                bad(sixty + "b:  " + leaf, 2, 124);
            }
        }
        for (String joint : new String[] {"|", "&"}) {
            good(Check.times("a" + joint, 59) + "a");
            bad(Check.times("a" + joint, 60) + "a", 2, 120);
            good(Check.times("*" + joint, 59) + "*");
            bad(Check.times("*" + joint, 60) + "*", 2, 120);
        }
        String hidden = "(" + Check.times("b&", 29) + "b)|c{" + Check.times("b|", 29) + "b}";
        good(hidden);
        bad(hidden + "|b", 2, hidden.length() + 1);
        bad(sixty + "?", 1, 120);
        bad(sixty, 1, 120);
        bad(sixty + "b:", 1, 122);
        bad(sixty + "b:*", 1, 122);
        // What is wrong within the 61st leaf comes too late.
        bad(sixty + "abcdefghijklm", 2, 120);
        bad(sixty + "[2..1]", 2, 120);
        bad(sixty + "\"\"", 2, 120);
    }

    /** A " " is one LEAF, a * behind a word none of its own; query(q, 3) tells how many. */
    private static void leavesThatCount() {
        PercolateSets sets = new PercolateSets();
        Check.save(sets, Check.times("a*|", 58) + "*|\"a b c d e f\"");
        check.due("LEAVES", sets.query(0, 3), 60);
        Check.save(sets, "*");
        check.due("LEAVES of *", sets.query(1, 3), 1);
        Check.save(sets, "!(a:[1..2] & #3(*, *, b*)) | d{\"x x\"}");
        check.due("LEAVES", sets.query(2, 3), 5);
    }

    /** "the 7th word of a " ", at its first byte" */
    private static void seventhWord() {
        for (int words = 1; words <= 6; words++) {
            good("\"" + Check.times("x ", words) + "\"");
            good("\"" + Check.times(" x", words) + "\"~9");
        }
        bad("\"" + Check.times("x ", 6) + "x\"", 2, 13);
        bad("\"" + Check.times("x ", 6) + "   x\"", 2, 16);
        bad("\"" + Check.times("x ", 6) + "x", 2, 13);
        bad("\"" + Check.times("x ", 6) + "abcdefghijklm\"", 2, 13);
        bad("\"" + Check.times("x ", 6), 1, 13);
        bad("\"" + Check.times("x ", 6) + "?", 1, 13);
        bad("c:\"" + Check.times("x ", 7) + "\"", 2, 15);
        good("\"" + Check.times("x ", 6) + "\"&\"" + Check.times("x ", 6) + "\"");
        bad("\"\"", 1, 1);
        bad("\"  \"", 1, 3);
    }

    /** "the 21st part of a #, at the , ahead of it" */
    private static void twentyFirstPart() {
        for (int parts = 1; parts <= 20; parts++) {
            good("#3(" + Check.times("x,", parts - 1) + "x)");
        }
        bad("#3(" + Check.times("x,", 20) + "x)", 2, 42);
        bad("#3(" + Check.times("x,", 19) + "x   ,x)", 2, 45);
        bad("#3(" + Check.times("x,", 20), 2, 42);
        bad("#3(" + Check.times("x,", 20) + "?", 2, 42);
        bad("#3(" + Check.times("x,", 20) + ")", 2, 42);
        bad("#3(" + Check.times("x,", 19) + ")", 1, 41);
        bad("#3(" + Check.times("x,", 19) + "x", 1, 42);
        bad("#3(" + Check.times("x,", 19) + "x;", 1, 42);
        bad("#3()", 1, 3);
        bad("#3(,)", 1, 3);
    }

    private static void partsOfEachCountByItself() {
        String twenty = "#1(" + Check.times("x,", 19) + "x)";
        good(twenty + "|" + twenty);
        good("#1(#1(" + Check.times("x,", 19) + "x)" + Check.times(",x", 19) + ")");
        bad("#1(#1(" + Check.times("x,", 19) + "x)" + Check.times(",x", 20) + ")", 2, 84);
        bad("#1(x,#1(" + Check.times("x,", 20) + "x),x)", 2, 47);
        good("#1(" + Check.times("x|x,", 19) + "x)");
    }

    /** "what is within more than 12 of ( ), # ( ), { } and ! : at the byte behind the 13th ( , { or !" */
    private static void withinTwelve() {
        String[] opens = {"(", "#1(", "a{", "!"};
        String[] closes = {")", ")", "}", ""};
        for (int kind = 0; kind < opens.length; kind++) {
            for (int many = 1; many <= 12; many++) {
                good(Check.times(opens[kind], many) + "x" + Check.times(closes[kind], many));
            }
            int place = 13 * opens[kind].length();
            bad(Check.times(opens[kind], 13) + "x" + Check.times(closes[kind], 13), 2, place);
            bad(Check.times(opens[kind], 13) + "  x" + Check.times(closes[kind], 13), 2, place);
            bad(Check.times(opens[kind], 13) + "?", 2, place);
            bad(Check.times(opens[kind], 14), 2, place);
            bad(Check.times(opens[kind], 12), 1, 12 * opens[kind].length());
            bad(Check.times(opens[kind], 12) + "?", 1, 12 * opens[kind].length());
        }
    }

    private static void withinTwelveOfAllKinds() {
        String[] opens = {"(", "#1(", "a{", "!"};
        String[] closes = {")", ")", "}", ""};
        for (int kind = 0; kind < opens.length; kind++) {
            for (int other = 0; other < opens.length; other++) {
                String mixed = Check.times(opens[kind], 11) + opens[other];
                String ends = closes[other] + Check.times(closes[kind], 11);
                good(mixed + "x" + ends);
                for (int last = 0; last < opens.length; last++) {
                    bad(mixed + opens[last] + "x", 2, mixed.length() + opens[last].length());
                }
            }
        }
        // A # that is the 13th is met at its ( alone: what is wrong ahead of it is met before.
        String twelve = Check.times("!", 12);
        bad(twelve + "#0(a)", 1, 13);
        bad(twelve + "#2 a", 1, 15);
        bad(twelve + "#2  (a)", 2, 17);
        bad(twelve + "# 2(a)", 1, 13);
        good(twelve + "a:x");
        good(twelve + "\"x y\"~2");
        good(twelve + "[1..2]");
        good(twelve + "*");
    }

    private static void closedOnesDoNotCount() {
        good(Check.times("!(a{x})|", 20) + "x");
        good(Check.times("!x&", 20) + "!x");
        good("#2(" + Check.times("!!!!!!!!!!!x,", 3) + "!!!!!!!!!!!x)");
        bad("#2(!!!!!!!!!!!x,!!!!!!!!!!!!x)", 2, 28);
        bad("(!!!!!!!!!!!x|!!!!!!!!!!!!x)", 2, 26);
        bad("a{!!!!!!!!!!!x&!!!!!!!!!!!!x}", 2, 27);
    }

    /** "3 a [ ] whose second number is below the first: at the second one's first byte (when both were read)" */
    private static void secondNumberBelow() {
        int[] firsts = {1, 2, 9, 10, 11, 99, 100, 101, 999, 1000, 1001, 9998, 9999};
        for (int first : firsts) {
            int place = 3 + ("" + first).length();
            good("[" + first + ".." + first + "]");
            bad("[" + first + ".." + (first - 1) + "]", 3, place);
            bad("[" + first + "..0]", 3, place);
            if (first < 9999) {
                good("[" + first + ".." + (first + 1) + "]");
            }
        }
        good("[0009..9]");
        good("[9..0009]");
        good("[0000..0]");
        bad("[0009..8]", 3, 7);
        bad("[9..0008]", 3, 4);
        bad("b: [2..1]", 3, 7);
        bad("a|[2..1]", 3, 6);
        bad("[2..1", 3, 4);
        bad("[2..1 ]", 3, 4);
        bad("[2..", 1, 4);
        bad("[2.1]", 1, 3);
        bad("[2..10000]", 1, 8);
        bad("[2..00001]", 1, 8);
    }

    /** "Then the first that is met" */
    private static void firstThatIsMet() {
        bad("[2..1]?", 3, 4);
        bad("?[2..1]", 1, 0);
        bad("[2..1]|[2..1]", 3, 4);
        bad("abcdefghijklm|" + Check.times("!", 13), 1, 12);
        bad(Check.times("!", 13) + "abcdefghijklm", 2, 13);
        bad("#1(" + Check.times("x,", 20) + "[2..1])", 2, 42);
        bad("#1(" + Check.times("x,", 19) + "[2..1],x)", 3, 45);
        bad("\"a b c d e f g\"|[2..1]", 2, 13);
        bad("[2..1]|\"a b c d e f g\"", 3, 4);
        bad(Check.times("a|", 60) + Check.times("!", 13), 2, 133);
        bad(Check.times("a|", 60) + "a?", 2, 120);
        bad(Check.times("a|", 59) + "a?", 1, 119);
    }
}
