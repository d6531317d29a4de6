/** The FAULTS of a QUERY with their places, by save() (promise 4), change() (5) and place() (7). */
final class FaultTest {
    private static final Check check = new Check("FaultTest");

    public static void main(String[] args) {
        goodOnes();
        wrongBytes();
        wrongEnds();
        blanksThatMayNotStand();
        fields();
        longWordsAndNumbers();
        tooManyLeaves();
        tooManyWordsAndParts();
        tooDeep();
        tooLong();
        wrongOrder();
        firstFaultWins();
        check.end();
    }

    private static void good(String text) {
        check.goodQuery(text);
    }

    private static void bad(String text, int kind, int place) {
        check.badQuery(text, kind, place);
    }

    private static void goodOnes() {
        good("a");
        good("  a  ");
        good("* | !*");
        good(" ( a | b & ! c ) & #2 ( x , y | z , \" q  w \"~0 ) | a{ b{ * } } ");
        good("a: b");
        good("a:[0..0]|[0001..9999]");
        good("a:\"a b c d e f\"~9");
        good("abcdefghijkl*");
        good("d:d&d{d}");
        good("#9(a)");
        good("!!!a");
    }

    private static void wrongBytes() {
        bad("e:x", 1, 1);
        bad("e{x}", 1, 1);
        bad("A", 1, 0);
        bad("a b", 1, 2);
        bad("a)", 1, 1);
        bad("(a))", 1, 3);
        bad("()", 1, 1);
        bad("a{}", 1, 2);
        bad("#2()", 1, 3);
        bad("#2(a,)", 1, 5);
        bad("#2(,a)", 1, 3);
        bad("#2 a", 1, 3);
        bad("#22(a)", 1, 2);
        bad("#0(a)", 1, 1);
        bad("#(a)", 1, 1);
        bad("(a]", 1, 2);
        bad("(a}", 1, 2);
        bad("a{b)", 1, 3);
        bad("(a,b)", 1, 2);
        bad("a||b", 1, 2);
        bad("a&|b", 1, 2);
        bad("|a", 1, 0);
        bad("&a", 1, 0);
        bad("a!b", 1, 1);
        bad("a(b)", 1, 1);
        bad("a**", 1, 2);
        bad("**", 1, 1);
        bad("*a", 1, 1);
        bad("a\"b\"", 1, 1);
        bad("\"a\"b", 1, 3);
        bad("\"a*\"", 1, 2);
        bad("\"a:b\"", 1, 2);
        bad("\" \"", 1, 2);
        bad("\"a\"~a", 1, 4);
        bad("\"a\"~12", 1, 5);
        bad("a~1", 1, 1);
        bad("[1..2]*", 1, 6);
        bad("[..2]", 1, 1);
        bad("[1.2]", 1, 3);
        bad("[1...2]", 1, 4);
        bad("[1..]", 1, 4);
        bad("[1..2", 1, 5);
        bad("[1]", 1, 2);
        bad("[a..2]", 1, 1);
        bad("a\u0000", 1, 1);
        bad("\u00e1", 1, 0);
        bad("a\tb", 1, 1);
    }

    private static void wrongEnds() {
        bad("", 1, 0);
        bad("   ", 1, 3);
        bad("a&", 1, 2);
        bad("a | ", 1, 4);
        bad("!", 1, 1);
        bad("(", 1, 1);
        bad("(a", 1, 2);
        bad("(a ", 1, 3);
        bad("#", 1, 1);
        bad("#3", 1, 2);
        bad("#3(", 1, 3);
        bad("#3(a", 1, 4);
        bad("#3(a,", 1, 5);
        bad("b{", 1, 2);
        bad("b{c", 1, 3);
        bad("b:", 1, 2);
        bad("b:  ", 1, 4);
        bad("\"", 1, 1);
        bad("\"a", 1, 2);
        bad("\"a ", 1, 3);
        bad("\"a\"~", 1, 4);
        bad("[", 1, 1);
        bad("[1", 1, 2);
        bad("[1.", 1, 3);
        bad("[1..", 1, 4);
    }

    private static void blanksThatMayNotStand() {
        bad("a *", 1, 2);
        bad("\"a\" ~1", 1, 4);
        bad("\"a\"~ 1", 1, 4);
        bad("[ 1..2]", 1, 1);
        bad("[1 ..2]", 1, 2);
        bad("[1. .2]", 1, 3);
        bad("[1.. 2]", 1, 4);
        bad("[1..2 ]", 1, 5);
        bad("# 2(a)", 1, 1);
        bad("a :b", 1, 2);
        bad("a {b}", 1, 2);
    }

    private static void fields() {
        bad("a:*", 1, 2);
        bad("a:(b)", 1, 2);
        bad("a:!b", 1, 2);
        bad("a:#1(b)", 1, 2);
        bad("a:b:c", 1, 3);
        bad("a:b{c}", 1, 3);
        bad("a: )", 1, 3);
        bad("ab:c", 1, 2);
        bad("ab{c}", 1, 2);
        bad("1:c", 1, 1);
    }

    private static void longWordsAndNumbers() {
        good("abcdefghijkl");
        bad("abcdefghijklm", 1, 12);
        bad("abcdefghijkl0", 1, 12);
        bad("a|abcdefghijklm", 1, 14);
        bad("\"abcdefghijkl 0123456789abc\"", 1, 26);
        good("[1234..1234]");
        bad("[12345..3]", 1, 5);
        bad("[00001..3]", 1, 5);
        bad("[1..12345]", 1, 8);
        bad("[1..00000]", 1, 8);
    }

    private static void tooManyLeaves() {
        good(Check.times("a|", 59) + "a");
        bad(Check.times("a|", 60) + "a", 2, 120);
        bad(Check.times("a&", 60) + "a", 2, 120);
        bad(Check.times("*&", 60) + "*", 2, 120);
        bad(Check.times("a|", 60) + "*", 2, 120);
        bad(Check.times("a|", 60) + "\"a\"", 2, 120);
        bad(Check.times("a|", 60) + "[1..2]", 2, 120);
        bad(Check.times("a|", 60) + "b:c", 2, 122);
        bad(Check.times("a|", 60) + "b:  c", 2, 124);
        bad(Check.times("a|", 60) + "b{c}", 2, 122);
        bad(Check.times("a|", 60) + "b:*", 1, 122);
        bad(Check.times("a|", 60) + "b:", 1, 122);
        bad(Check.times("a|", 60), 1, 120);
        good("\"a b c d e f\"|" + Check.times("a|", 58) + "a");
    }

    private static void tooManyWordsAndParts() {
        good("\"a b c d e f\"");
        bad("\"a b c d e f g\"", 2, 13);
        bad("\"a b c d e f  g", 2, 14);
        bad("\"a b c d e f ?", 1, 13);
        good("#1(" + Check.times("a,", 19) + "a)");
        bad("#1(" + Check.times("a,", 20) + "a)", 2, 42);
        bad("#1(" + Check.times("a,", 19) + "a ,", 2, 43);
        bad("#1(" + Check.times("a,", 19) + "a", 1, 42);
    }

    private static void tooDeep() {
        good(Check.times("!", 12) + "a");
        bad(Check.times("!", 13) + "a", 2, 13);
        bad(Check.times("!", 13), 2, 13);
        bad(Check.times("! ", 12) + "! a", 2, 25);
        good(Check.times("(", 12) + "a" + Check.times(")", 12));
        bad(Check.times("(", 13) + "a" + Check.times(")", 13), 2, 13);
        good(Check.times("a{", 12) + "a" + Check.times("}", 12));
        bad(Check.times("a{", 13) + "a" + Check.times("}", 13), 2, 26);
        good(Check.times("#1(", 12) + "a" + Check.times(")", 12));
        bad(Check.times("#1(", 13) + "a" + Check.times(")", 13), 2, 39);
        bad(Check.times("#1 (", 12) + "#0(a", 1, 49);
        bad(Check.times("!(a{#2(", 3) + "!a", 2, 22);
        good(Check.times("!(a{#2(", 3) + "a)}))}))})");
        good(Check.times("(!a)&", 13) + "a");
        good("(((((((((((!a|!b)))))))))))");
        bad("(((((((((((!!a|b)))))))))))", 2, 13);
    }

    private static void tooLong() {
        good("a" + Check.times(" ", 299));
        bad("a" + Check.times(" ", 300), 2, 300);
        bad("?" + Check.times(" ", 300), 2, 300);
        bad(Check.times("?", 700), 2, 300);
    }

    private static void wrongOrder() {
        good("[3..3]");
        good("[09..10]");
        bad("[40..3]", 3, 5);
        bad("[1..0]", 3, 4);
        bad("a|c:[9999..9998]", 3, 11);
        bad("[4..3", 3, 4);
        bad("[4..3x", 3, 4);
        bad("[9..01234]", 1, 8);
    }

    private static void firstFaultWins() {
        bad("[4..3]|?", 3, 4);
        bad("?|[4..3]", 1, 0);
        bad("\"a b c d e f abcdefghijklm\"", 2, 13);
        bad("abcdefghijklm|[4..3]", 1, 12);
    }
}
