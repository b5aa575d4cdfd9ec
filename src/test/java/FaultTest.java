import java.util.Random;

/** Promises 3 and 4: which texts have a fault, which one is told, and its place. */
public final class FaultTest {
    private static final int NONE = ShortTeller.NONE;
    private static final Check CHECK = new Check("FaultTest");
    private static final String W20 = "abcdefghij0123456789";

    public static void main(String[] args) {
        textsWithoutAFault();
        whatCannotStand();
        whatMustCome();
        tooLongWordsAndNumbers();
        tooDeep();
        tooManyOptions();
        tooManyWords();
        leaningWithoutAName();
        withoutAWord();
        theFirstAlongTheText();
        aSoupOfSigns();
        allShortTexts();
        everySignBehindEveryBeginning();
        CHECK.end();
    }

    private static void good(String text, int options) {
        faulty(text, 0, NONE, options);
    }

    private static void bad(String text, int fault, int place) {
        faulty(text, fault, place, NONE);
    }

    private static void faulty(String text, int fault, int place, int options) {
        ShortTeller x = new ShortTeller();
        CHECK.due("text of " + text, options, Check.take(x, text));
        CHECK.due("fault(0) of " + text, fault, x.fault(0));
        CHECK.due("fault(1) of " + text, place, x.fault(1));
    }

    private static void textsWithoutAFault() {
        good("", 0);
        good(" \n \n", 0);
        good("a.", 1);
        good("\n a \n .\n", 1);
        good("a.b.c.", 3);
        good("=a.", 0);
        good("= \n a b *C <1> .", 0);
        good("{a|b}.", 3);
        good("{ a | b | c } .", 4);
        good("a(b)c(d).", 3);
        good("!\"#$%&'+,-/ 0123456789 :;?@AZ[\\]^_`az.", 1);
        good("*A~b.", 1);
        good("*A*B*C~d~e<0>.", 1);
        good("a<0><30><007><00000000000000000030>.", 1);
        good("({a|b}) c.", 4);
        good("{{a|b}|c}.", 5);
        good("=*A. b ~he.", 1);
        good("a (*B). ~he.", 3);
    }

    private static void whatCannotStand() {
        bad(".", 1, 0);
        bad("a..", 1, 2);
        bad(")", 1, 0);
        bad("|", 1, 0);
        bad("}", 1, 0);
        bad(">", 1, 0);
        bad("a).", 1, 1);
        bad("a|b.", 1, 1);
        bad("a}.", 1, 1);
        bad("a>.", 1, 1);
        bad("a=.", 1, 1);
        bad("a =b.", 1, 2);
        bad("==a.", 1, 1);
        bad("=.", 1, 1);
        bad("= .", 1, 2);
        bad("a ().", 1, 3);
        bad("a ( ).", 1, 4);
        bad("a (b.", 1, 4);
        bad("a (b|c).", 1, 4);
        bad("a (b}.", 1, 4);
        bad("a {b}.", 1, 4);
        bad("a {}.", 1, 3);
        bad("a {|b}.", 1, 3);
        bad("a {b|}.", 1, 5);
        bad("a {b||c}.", 1, 5);
        bad("a {b|c).", 1, 6);
        bad("a {b|c.", 1, 6);
        bad("a {b (c}.", 1, 7);
        bad("a {b|c (d|e)}.", 1, 9);
        bad("* A.", 1, 1);
        bad("*.", 1, 1);
        bad("**A.", 1, 1);
        bad("*(A).", 1, 1);
        bad("*A ~ b.", 1, 4);
        bad("*A ~~b.", 1, 4);
        bad("*A ~*b.", 1, 4);
        bad("a < 1>.", 1, 3);
        bad("a <1 >.", 1, 4);
        bad("a <>.", 1, 3);
        bad("a <x>.", 1, 3);
        bad("a <-1>.", 1, 3);
        bad("a <1x>.", 1, 4);
        bad("a <1<2>>.", 1, 4);
        bad("=a (b).", 1, 3);
        bad("=a {b|c}.", 1, 3);
        bad("*A. =~b.", 1, 5);
        bad("*A. =c ~b.", 1, 7);
        int[] noSigns = {0, 1, 9, 11, 13, 31, 127, 128, 160, 200, 255};
        for (int sign : noSigns) {
            bad((char) sign + "a.", 1, 0);
            bad("ab" + (char) sign + ".", 1, 2);
            bad("a *" + (char) sign + ".", 1, 3);
            bad("a <" + (char) sign + ">.", 1, 3);
            bad("a." + (char) sign, 1, 2);
        }
    }

    private static void whatMustCome() {
        bad("a", 1, 1);
        bad("a  ", 1, 3);
        bad("a. b\n", 1, 5);
        bad("=", 1, 1);
        bad("= ", 1, 2);
        bad("=a", 1, 2);
        bad("*", 1, 1);
        bad("*A ~", 1, 4);
        bad("a <", 1, 3);
        bad("a <1", 1, 4);
        bad("a <1>", 1, 5);
        bad("a (", 1, 3);
        bad("a (b", 1, 4);
        bad("a (b)", 1, 5);
        bad("a {b", 1, 4);
        bad("a {b|", 1, 5);
        bad("a {b|c", 1, 6);
        bad("a {b|c}", 1, 7);
    }

    private static void tooLongWordsAndNumbers() {
        good(W20 + ".", 1);
        good("*" + W20 + " ~" + W20 + ".", 1);
        bad(W20 + "x.", 2, 0);
        bad(W20 + "x", 2, 0);
        bad("a " + W20 + "x.", 2, 2);
        bad("*" + W20 + "x.", 2, 1);
        bad("*A ~" + W20 + "x.", 2, 4);
        bad("=" + W20 + "x.", 2, 1);
        bad("a (" + W20 + W20 + W20 + ")", 2, 3);
        good("a <30>.", 1);
        bad("a <31>.", 2, 3);
        bad("a <31x.", 2, 3);
        bad("a <31", 2, 3);
        bad("a <0031>.", 2, 3);
        bad("a <4294967296>.", 2, 3);
        bad("a <99999999999999999999999999999999999999>.", 2, 3);
        bad("a<100>.", 2, 2);
    }

    private static void tooDeep() {
        good("a (b (c (d (e)))).", 5);
        bad("a (b (c (d (e (f))))).", 2, 14);
        bad("a (b (c (d (e {f|g})))).", 2, 14);
        good("a {b {c {d {e|f}|g}|h}|i}.", 9);
        bad("a {b {c {d {e (f)|g}|h}|i}|j}.", 2, 14);
        bad("a {b {c {d {e {f|g}|h}|i}|j}|k}.", 2, 14);
        bad("a {b (c {d (e {", 2, 14);
        bad("a (((((b", 2, 6);
        good("a (b) (c) (d) (e) (f).", 6);
        bad("a (((( {", 2, 7);
    }

    private static String times(String part, int many) {
        StringBuilder row = new StringBuilder();
        for (int i = 0; i < many; i++) {
            row.append(part);
        }
        return row.toString();
    }

    private static void tooManyOptions() {
        good(times("a.", 14), 14);
        bad(times("a.", 15), 2, 28);
        bad(times("a.", 14) + "  (a)", 2, 30);
        bad(times("a.", 14) + ".", 1, 28);
        bad(times("a.", 14) + ")", 1, 28);
        bad(times("a.", 14) + "\t", 1, 28);
        bad(times("a.", 14) + "~x.", 2, 28);
        bad(times("a.", 14) + "*.", 2, 28);
        bad(times("a.", 14) + "<x>.", 2, 28);
        good(times("a.", 14) + "=b. =c.", 14);
        good(times("=a. b.", 14) + "=c.", 14);
        good(times("=a. =b. c.", 14) + "=c.", 14);
        good(times("=a.", 200) + "c.", 1);
        good("a" + times("(b)", 13) + ".", 14);
        bad("a" + times("(b)", 14) + ".", 2, 40);
        bad("a" + times("(b)", 13) + " (", 2, 41);
        good("{a" + times("|b", 12) + "}.", 14);
        bad("{a" + times("|b", 13) + "}.", 2, 27);
        bad("{a" + times("|b", 12) + "|  b}.", 2, 29);
        bad("{a" + times("|b", 12) + "|}.", 1, 27);
        bad("{a" + times("|b", 12) + "| \t", 1, 28);
        bad("{a" + times("|b", 12) + "|~x}.", 2, 27);
        bad("{a" + times("|b", 12) + "|(x) y}.", 2, 27);
        bad("{a" + times("|b", 12) + "|{x|y}}.", 2, 27);
        bad("{a" + times("|b", 11) + "|(x) z}.", 2, 25);
        bad("{a" + times("|b", 10) + "|(x) (y) z}.", 2, 27);
        bad(times("a.", 13) + "(a) b.", 2, 26);
        bad(times("a.", 13) + "{a|b}.", 2, 27);
        bad(times("a.", 13) + "{ }.", 1, 28);
        bad(times("a.", 12) + "{a|b}.", 2, 27);
    }

    private static void tooManyWords() {
        good(times("a ", 40) + ".", 1);
        good(times("a ", 40) + ". " + times("b ", 40) + ".", 2);
        bad(times("a ", 40) + "b.", 2, 80);
        bad(times("a ", 40) + "*b.", 2, 81);
        bad("*b " + times("a ", 39) + "~b.", 2, 82);
        bad(times("a ", 40) + "~b.", 3, 80);
        bad("=" + times("a ", 40) + "b.", 2, 81);
        good("=" + times("a ", 40) + ".", 0);
        good(times("a ", 38) + "(b c).", 2);
        bad(times("a ", 38) + "(b c) d.", 2, 82);
        bad(times("a ", 38) + "({b|c} d).", 2, 83);
        bad("x. " + times("a ", 40) + "b.", 2, 83);
        bad(times("a ", 40) + "<1> <2> b.", 2, 88);
    }

    private static void leaningWithoutAName() {
        bad("~a.", 3, 0);
        bad("a ~b *C.", 3, 2);
        bad("a ~ b.", 3, 2);
        bad("a ~" + W20 + "x.", 3, 2);
        bad("a (b ~c).", 3, 5);
        bad("{~a|b}.", 3, 1);
        good("*A. b. c ~d.", 3);
        good("=*A. =b. c ~d.", 1);
        good("b {(*A) c|~d}.", 4);
    }

    private static void withoutAWord() {
        bad("<1>.", 4, 0);
        bad("  <1> <2>.", 4, 2);
        bad("=<1>.", 4, 0);
        bad("a. = <1>.", 4, 3);
        bad("(a).", 4, 0);
        bad("(a) (b) <3>.", 4, 0);
        bad("a (<3>).", 4, 2);
        bad("a ( <3> (b)).", 4, 2);
        bad("a {(b)|c}.", 4, 3);
        bad("a { (b)|c}.", 4, 4);
        bad("a {b|<1>}.", 4, 5);
        bad("a {b| <1>|c}.", 4, 6);
        bad("a {b|({c|d})}.", 4, 5);
        bad("a ((b)).", 4, 2);
        bad("({a|b}).", 4, 0);
        good("({a|b} <2>) c.", 4);
        good("{<1> a|b (c)}.", 4);
        good("*A.", 1);
        good("*A. ~b.", 2);
        good("*A. (c) ~b.", 3);
    }

    private static void theFirstAlongTheText() {
        // A word is asked for at the end: what is wrong ahead of the end comes first.
        bad("{<1>}.", 1, 4);
        bad("(a) (~b).", 3, 5);
        bad("(a) <31>.", 2, 5);
        bad("(a) <3", 1, 6);
        bad("(a)", 1, 3);
        bad("a (<1>", 1, 6);
        bad("a (<1>|", 1, 6);
        bad("a {<1>|<x>}.", 4, 3);
        bad("a (<1>) ~b.", 4, 2);
        bad("~a <31>.", 3, 0);
        bad("a <31> ~b.", 2, 3);
        bad("a ) <31>.", 1, 2);
        bad("=~a.", 1, 1);
    }

    private static void aSoupOfSigns() {
        Random random = new Random(7);
        String[] parts = {"(", ")", "{", "|", "}", "<", ">", "~", "*", "=", ".", " ", "\n", "a", "b", "1", "3", "<1>",
            "<2>", "*A", "~b", "c ", "d ", "a.", "{a|b}", "(c)", "|", ")", "}", ".", "x{", "x(", W20};
        for (int i = 0; i < 150000; i++) {
            StringBuilder soup = new StringBuilder();
            for (int k = random.nextInt(i % 10 == 0 ? 60 : 12); k >= 0; k--) {
                soup.append(parts[random.nextInt(parts.length)]);
            }
            soup.setLength(Math.min(800, soup.length()));
            compare(new ShortTeller(), soup.toString());
        }
    }

    private static void compare(ShortTeller x, String text) {
        int options = NONE;
        int fault = 0;
        int place = NONE;
        try {
            options = new PlainTeller(text).options.size();
        } catch (PlainTeller.Fault e) {
            fault = e.kind;
            place = e.place;
        }
        CHECK.due("text of " + text, options, Check.take(x, text));
        CHECK.due("fault(0) of " + text, fault, x.fault(0));
        CHECK.due("fault(1) of " + text, place, x.fault(1));
    }

    private static void allShortTexts() {
        String signs = "(){|}<>~*=. a1";
        ShortTeller x = new ShortTeller();
        for (int size = 1; size <= 5; size++) {
            int many = (int) Math.pow(signs.length(), size);
            for (int number = 0; number < many; number++) {
                StringBuilder text = new StringBuilder();
                for (int rest = number, k = 0; k < size; k++, rest /= signs.length()) {
                    text.append(signs.charAt(rest % signs.length()));
                }
                compare(x, text.toString());
            }
        }
    }

    /** What may come next, wherever a text by the grammar is cut off; and each such beginning wants more at its end. */
    private static void everySignBehindEveryBeginning() {
        Random random = new Random(11);
        MadeUpTexts texts = new MadeUpTexts(random);
        String signs = "(){|}<>~*=. \na1\t";
        ShortTeller x = new ShortTeller();
        for (int i = 0; i < 300; i++) {
            String text = texts.next(2 + random.nextInt(6)).toString();
            boolean isGood = Check.take(x, text) != NONE;
            for (int n = 0; n < text.length() && n < 799; n++) {
                String begun = text.substring(0, n);
                for (int k = 0; k < signs.length(); k++) {
                    compare(x, begun + signs.charAt(k));
                }
                int options = Check.take(x, begun);
                if (isGood && options == NONE) {
                    CHECK.due("fault(0) of " + begun, 1, x.fault(0));
                    CHECK.due("fault(1) of " + begun, n, x.fault(1));
                }
            }
        }
    }
}
