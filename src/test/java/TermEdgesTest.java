/** The edges that the document's Terms name, up to the FAULTS: one method for each of them. */
public final class TermEdgesTest {
    private static final int NONE = ShortTeller.NONE;
    private static final String OWN_SIGNS = "(){|}<>~*=.";
    private static final String W20 = "abcdefghij0123456789";
    private static final Check CHECK = new Check("TermEdgesTest");

    public static void main(String[] args) {
        everyByteAmongWords();
        everyByteAlone();
        everyByteInAWord();
        everyByteBehindAStar();
        everyByteInAFact();
        wordsOfTwentySigns();
        factsFromZeroToThirty();
        blanksWhereTheyMayStand();
        blanksWhereTheyMayNotStand();
        whatAHeadingMayHave();
        anEqualsSignOnlyAhead();
        aListHasTwoItems();
        theLengthIfMoreMustCome();
        theLengthOfAFullTape();
        withinFourOthers();
        theFifteenthOption();
        headingsAreNoOptions();
        theFortyFirstWord();
        wordsAreCountedAnewInEachSentence();
        leaningOnlyBehindAName();
        aWordThatIsNotInAnAside();
        ofOnePlaceTheLeast();
        theFirstAlongTheText();
        CHECK.end();
    }

    private static void good(String text, int options) {
        told(text, options, 0, NONE);
    }

    private static void bad(String text, int fault, int place) {
        told(text, NONE, fault, place);
    }

    private static void told(String text, int options, int fault, int place) {
        ShortTeller x = new ShortTeller();
        CHECK.due("text of " + text, options, Check.take(x, text));
        CHECK.due("fault(0) of " + text, fault, x.fault(0));
        CHECK.due("fault(1) of " + text, place, x.fault(1));
    }

    private static String times(String part, int many) {
        return part.repeat(many);
    }

    private static boolean isBlank(int sign) {
        return sign == 10 || sign == 32;
    }

    private static boolean isOfWord(int sign) {
        return sign >= 33 && sign <= 126 && OWN_SIGNS.indexOf(sign) < 0;
    }

    private static void everyByteAmongWords() {
        for (int sign = 0; sign < 256; sign++) {
            String text = "a " + (char) sign + " b.";
            switch (sign) {
                case '(':
                case '{':
                    bad(text, 1, 5);
                    break;
                case '<':
                case '*':
                    bad(text, 1, 3);
                    break;
                case '~':
                    bad(text, 3, 2);
                    break;
                case '.':
                    good(text, 2);
                    break;
                default:
                    if (isBlank(sign) || isOfWord(sign)) {
                        good(text, 1);
                    } else {
                        bad(text, 1, 2);
                    }
            }
        }
    }

    private static void everyByteAlone() {
        for (int sign = 0; sign < 256; sign++) {
            String text = String.valueOf((char) sign);
            if (isBlank(sign)) {
                good(text, 0);
            } else if (sign == '~') {
                bad(text, 3, 0);
            } else {
                // What may begin a sentence wants more behind it.
                bad(text, 1, isOfWord(sign) || "({<*=".indexOf(sign) >= 0 ? 1 : 0);
            }
        }
    }

    private static void everyByteInAWord() {
        for (int sign = 0; sign < 256; sign++) {
            if (OWN_SIGNS.indexOf(sign) < 0) {
                String text = "x" + (char) sign + "y.";
                ShortTeller x = new ShortTeller();
                boolean mayStand = isBlank(sign) || isOfWord(sign);
                CHECK.due("text with " + sign, mayStand ? 1 : NONE, Check.take(x, text));
                CHECK.due("its place", mayStand ? NONE : 1, x.fault(1));
                CHECK.due("words with " + sign, !mayStand ? 0 : isBlank(sign) ? 2 : 1, x.count(3));
            }
        }
    }

    private static void everyByteBehindAStar() {
        for (int sign = 0; sign < 256; sign++) {
            if (isOfWord(sign)) {
                good("*" + (char) sign + ".", 1);
                good("*A ~" + (char) sign + ".", 1);
            } else {
                bad("*" + (char) sign + "b.", 1, 1);
                bad("*A ~" + (char) sign + "b.", 1, 4);
            }
        }
    }

    private static void everyByteInAFact() {
        for (int sign = 0; sign < 256; sign++) {
            boolean isDigit = sign >= '0' && sign <= '9';
            if (isDigit) {
                good("a <" + (char) sign + ">.", 1);
                good("a <1" + (char) sign + ">.", 1);
            } else {
                bad("a <" + (char) sign + "1>.", 1, 3);
            }
            if (!isDigit && sign != '>') {
                bad("a <1" + (char) sign + ">.", 1, 4);
            }
        }
    }

    private static void wordsOfTwentySigns() {
        good(W20 + ".", 1);
        good("*" + W20 + ".", 1);
        good("*A ~" + W20 + ".", 1);
        good("=" + W20 + ".", 0);
        good("a (" + W20 + ") {" + W20 + "|b}.", 4);
        bad(W20 + "x.", 2, 0);
        bad("*" + W20 + "x.", 2, 1);
        bad("*A ~" + W20 + "x.", 2, 4);
        bad("=" + W20 + "x.", 2, 1);
        bad("a (" + W20 + "x).", 2, 3);
        bad("a {b|" + W20 + "x}.", 2, 5);
        bad(times("x", 800), 2, 0);
        good(W20 + "\n" + W20 + ".", 1);
        good(W20 + "*" + W20 + "<1>" + W20 + ".", 1);
    }

    private static void factsFromZeroToThirty() {
        for (int fact = 0; fact < 100; fact++) {
            if (fact <= 30) {
                good("a <" + fact + ">.", 1);
                good("a <0" + fact + ">.", 1);
                CHECK.due("the fact " + fact, 1 << fact, Check.of("a <" + fact + ">.").count(5));
                CHECK.due("the fact 0" + fact, 1 << fact, Check.of("a <0" + fact + ">.").count(5));
            } else {
                bad("a <" + fact + ">.", 2, 3);
            }
        }
        String[] large = {"100", "255", "256", "2147483647", "2147483648", "4294967295", "4294967296", "4294967326",
            "18446744073709551616", "031", "0000000000031", times("9", 700)};
        for (String number : large) {
            bad("a <" + number + ">.", 2, 3);
            bad("a <" + number, 2, 3);
        }
        good("a <" + times("0", 700) + "30>.", 1);
        bad("a <>.", 1, 3);
        bad("a <-1>.", 1, 3);
        bad("a <+1>.", 1, 3);
    }

    private static void blanksWhereTheyMayStand() {
        String[] signs = {"=", "H", "<1>", ".", "*Al", "(", "b", "<2>", ")", "{", "c", "|", "~he", "(", "d", ")", "}", "."};
        String plain = String.join(" ", signs);
        String[] joins = {"\n", "  ", " \n ", "\n\n\n"};
        for (String join : joins) {
            good(String.join(join, signs), 5);
            good(join + String.join(join, signs) + join, 5);
        }
        good(String.join("", signs), 5);
        for (int place = 0; place < plain.length(); place++) {
            if (plain.charAt(place) == ' ') {
                good(plain.substring(0, place) + plain.substring(place + 1), 5);
            }
        }
    }

    private static void blanksWhereTheyMayNotStand() {
        char[] blanks = {10, 32};
        for (char blank : blanks) {
            bad("*" + blank + "A.", 1, 1);
            bad("*A ~" + blank + "b.", 1, 4);
            bad("a <" + blank + "1>.", 1, 3);
            bad("a <1" + blank + ">.", 1, 4);
            bad("a <1" + blank + "2>.", 1, 4);
        }
    }

    private static void whatAHeadingMayHave() {
        good("=a.", 0);
        good("=*A.", 0);
        good("=a <1> *B <2> c.", 0);
        bad("=(a).", 1, 1);
        bad("={a|b}.", 1, 1);
        bad("=~a.", 1, 1);
        bad("*A. =~a.", 1, 5);
        bad("=a (b).", 1, 3);
        bad("=a {b|c}.", 1, 3);
        bad("*A. =b ~c.", 1, 7);
        bad("=a).", 1, 2);
        bad("=a|b.", 1, 2);
        bad("=a}.", 1, 2);
        good("=a.(b)c.", 2);
        good("=*A.~b.", 1);
    }

    private static void anEqualsSignOnlyAhead() {
        good("=a.=b.c.=d.", 1);
        bad("==a.", 1, 1);
        bad("= =a.", 1, 2);
        bad("a=b.", 1, 1);
        bad("a (=b).", 1, 3);
        bad("{=a|b}.", 1, 1);
        bad("{a|=b}.", 1, 3);
        bad("*=a.", 1, 1);
        bad("a <=1>.", 1, 3);
    }

    private static void aListHasTwoItems() {
        good("{a|b}.", 3);
        bad("{a}.", 1, 2);
        bad("{}.", 1, 1);
        bad("{|a}.", 1, 1);
        bad("{a|}.", 1, 3);
        bad("{a||b}.", 1, 3);
        bad("{a|b|}.", 1, 5);
        bad("{ | }.", 1, 2);
        bad("{{a}|b}.", 1, 3);
        bad("{{a|b}}.", 1, 6);
        bad("{a|b}{c}.", 1, 7);
        bad("{a|b}. {c}.", 1, 9);
        bad("{a|b {c}}.", 1, 7);
    }

    private static void theLengthIfMoreMustCome() {
        String whole = "=On *Al <12>. (a <3>) {b|~c {d|e}} f. g <0> .";
        for (int n = 0; n <= whole.length(); n++) {
            String text = whole.substring(0, n);
            boolean isWhole = text.trim().endsWith(".") || n == 0;
            ShortTeller x = new ShortTeller();
            CHECK.due("a text of " + n, isWhole, Check.take(x, text) != NONE);
            CHECK.due("fault(0) of " + n, isWhole ? 0 : 1, x.fault(0));
            CHECK.due("fault(1) of " + n, isWhole ? NONE : n, x.fault(1));
        }
    }

    private static void theLengthOfAFullTape() {
        bad(times(W20.substring(0, 19) + ".", 14) + times(" ", 519) + "=", 1, 800);
        bad("a " + times(" ", 798), 1, 800);
        bad("a (b" + times(" ", 796), 1, 800);
        bad(times(" ", 799) + "*", 1, 800);
        good(times(" ", 798) + "a.", 1);
        bad(times(" ", 799) + ")", 1, 799);
        bad(times(" ", 799) + "~", 3, 799);
        bad(times(" ", 797) + "<1>", 1, 800);
        bad(times(" ", 798) + "<1", 1, 800);
        // Every sign of it is taken by itself.
        good("{a|b}" + times(" ", 793) + "c.", 3);
    }

    private static void withinFourOthers() {
        good("a(b(c(d(e)))).", 5);
        bad("a(b(c(d(e(f))))).", 2, 9);
        bad("a(b(c(d(e{f|g})))).", 2, 9);
        good("{{{{a|b}|c}|d}|e}.", 9);
        bad("{{{{{a|b}|c}|d}|e}|f}.", 2, 4);
        bad("{{{{(a) b|c}|d}|e}|f}.", 2, 4);
        good("a {b (c {d (e)|f})|g}.", 7);
        bad("a {b (c {d (e (f))|g})|h}.", 2, 14);
        good("a(b(c(d(e)(f)))(g)).", 7);
        bad("a(b(c(d(e)(f(g)))(h))).", 2, 12);
        good("a(b(c(d(e)))). f(g(h(i(j)))).", 10);
    }

    private static void theFifteenthOption() {
        good(times("a.", 14), 14);
        bad(times("a.", 14) + " \nb.", 2, 30);
        good("a" + times("(b)", 13) + ".", 14);
        bad("a" + times("(b)", 13) + " \n(b).", 2, 42);
        good("{a" + times("|b", 12) + "}.", 14);
        bad("{a" + times("|b", 12) + "| \nc}.", 2, 29);
        bad(times("a.", 13) + " { b|c}.", 2, 29);
        bad(times("a.", 12) + " {b| c}.", 2, 29);
        bad(times("a.", 13) + "b (c).", 2, 28);
        bad(times("a.", 13) + "(b) c.", 2, 26);
        bad(times("a.", 12) + "{(b) c|d}.", 2, 25);
        bad(times("a.", 11) + "{(b) c|d}.", 2, 29);
        good(times("a.", 14) + " \n ", 14);
    }

    private static void headingsAreNoOptions() {
        good(times("a.", 14) + "=b.", 14);
        good("=b." + times("a.", 14), 14);
        good(times("=b.", 266), 0);
        bad(times("=b.", 200) + times("a.", 15), 2, 628);
    }

    private static void theFortyFirstWord() {
        good(times("a ", 40) + ".", 1);
        bad(times("a ", 40) + "b.", 2, 80);
        bad(times("a ", 40) + " \nb.", 2, 82);
        good("=" + times("a ", 40) + ".", 0);
        bad("=" + times("a ", 40) + "b.", 2, 81);
        good("*A " + times("~b ", 39) + ".", 1);
        bad("*A " + times("~b ", 39) + "~c.", 2, 121);
        bad(times("*A", 40) + "*B.", 2, 81);
        good(times("a ", 20) + "(" + times("b ", 10) + ") {" + times("c ", 9) + "|d}.", 4);
        bad(times("a ", 20) + "(" + times("b ", 20) + "c).", 2, 81);
        bad(times("a ", 20) + "{" + times("b ", 20) + "|c}.", 2, 82);
        bad(times("a ", 39) + "(b) c.", 2, 82);
        good(times("a ", 40) + "<1><2><3>.", 1);
    }

    private static void wordsAreCountedAnewInEachSentence() {
        good(times("a ", 40) + "." + times("a ", 40) + ".", 2);
        good("=" + times("a ", 40) + "." + times("a ", 40) + ".=" + times("a ", 40) + ".", 1);
        bad("=a." + times("a ", 40) + ".=" + times("a ", 41) + ".", 2, 165);
    }

    private static void leaningOnlyBehindAName() {
        bad("~a.", 3, 0);
        bad("a. ~b.", 3, 3);
        bad("~a *B.", 3, 0);
        bad("~a *B ~c.", 3, 0);
        bad("Al ~he.", 3, 3);
        bad("{~a|*B}.", 3, 1);
        good("{*B|~a}.", 3);
        good("a (*B) ~c.", 2);
        good("=*B. ~c.", 1);
        good("*B. =h. c. ~d.", 3);
        // A text has no names of the text ahead of it.
        ShortTeller x = Check.of("*Al.");
        CHECK.due("~he behind another text", NONE, Check.take(x, "~he."));
        CHECK.due("its fault", 3, x.fault(0));
        CHECK.due("its place", 0, x.fault(1));
    }

    private static void aWordThatIsNotInAnAside() {
        bad("<1>.", 4, 0);
        bad(" \n<1>.", 4, 2);
        bad("=<1>.", 4, 0);
        bad("a. = <1> .", 4, 3);
        bad("(a).", 4, 0);
        bad("<1>(a)<2>.", 4, 0);
        bad("({a|b}).", 4, 0);
        bad("a ( <1> ).", 4, 2);
        bad("a ((b)).", 4, 2);
        bad("a {(b)|c}.", 4, 3);
        bad("a {b| <1>}.", 4, 6);
        bad("a {b|(c)(d)|e}.", 4, 5);
        good("{a|b}.", 3);
        good("({a|b}) c.", 4);
        good("a ({b|c}).", 4);
        good("{{a|b}|c}.", 5);
        good("*A.", 1);
        good("*A. ~b.", 2);
        good("(a) b.", 2);
        good("=<1>a.", 0);
    }

    private static void ofOnePlaceTheLeast() {
        // 1 and 3: a ~ in a heading, with no name ahead.
        bad("=~a.", 1, 1);
        // 2 and 3: the 15th option begins with a ~ that has no name ahead.
        bad(times("a.", 14) + "~b.", 2, 28);
        bad("{a" + times("|b", 12) + "|~c}.", 2, 27);
        // 1 and 4: at the end of an item that may not end there.
        bad("{<1>}.", 1, 4);
        bad("{(a)}.", 1, 4);
        // 1 and 4, where it may end: 4 alone.
        bad("{a|<1>}.", 4, 3);
        // 2 twice.
        bad(times("a ", 40) + W20 + "x.", 2, 80);
        bad(times("a.", 9) + "b(c(d(e(f(g))))).", 2, 27);
    }

    private static void theFirstAlongTheText() {
        bad("a ) ~b.", 1, 2);
        bad("~b a ).", 3, 0);
        bad("a <31> ).", 2, 3);
        bad("a <31 ~b", 2, 3);
        bad("(a). ~b.", 4, 0);
        bad("(a) ~b.", 3, 4);
        bad("(a) <31>.", 2, 5);
        bad("(a) )", 1, 4);
        bad("(a) ", 1, 4);
        bad("a. (b). c. (d).", 4, 3);
        bad("a (<1>) )", 4, 2);
        bad("~ b.", 3, 0);
        bad("~" + W20 + "x.", 3, 0);
    }
}
