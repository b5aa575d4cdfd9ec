/** Promises 8 to 11 and 16: sound, length, value, sign, named. */
public final class ChoiceTest {
    private static final int NONE = ShortTeller.NONE;
    private static final Check CHECK = new Check("ChoiceTest");

    public static void main(String[] args) {
        whatStaysIsWithinWhatStays();
        aListKeepsAnItem();
        bitsOfNoOption();
        listsAreJoinedAnew();
        headingsStayWithSentences();
        leaningWordsKeepTheirMeaning();
        namesInHeadingsAsidesAndItems();
        sameWordsAreTheSameName();
        valuesCountAFactOnce();
        signsBehindTheEnd();
        theLongestReading();
        asManyWordsAsCanBe();
        asManyHeadingsAsCanBe();
        CHECK.end();
    }

    private static void reads(ShortTeller x, int choice, String want, int named) {
        CHECK.due("sound(" + choice + ")", 1, x.sound(choice));
        CHECK.due("read(" + choice + ")", want, Check.read(x, choice));
        CHECK.due("length(" + choice + ")", want.length(), x.length(choice));
        CHECK.due("named(" + choice + ")", named, x.named(choice));
    }

    private static void isNotSound(ShortTeller x, int choice, int answer) {
        CHECK.due("sound(" + choice + ")", answer, x.sound(choice));
        CHECK.due("length(" + choice + ")", NONE, x.length(choice));
        CHECK.due("value(" + choice + ")", NONE, x.value(choice));
        CHECK.due("sign(" + choice + ", 0)", NONE, x.sign(choice, 0));
        CHECK.due("named(" + choice + ")", NONE, x.named(choice));
        CHECK.due("turned(" + choice + ", 0)", NONE, x.turned(choice, 0));
    }

    private static void whatStaysIsWithinWhatStays() {
        ShortTeller x = Check.of("a (b (c)) d. e.");
        reads(x, 0b0000, "", 0);
        reads(x, 0b0001, "a d.", 0);
        reads(x, 0b0011, "a b d.", 0);
        reads(x, 0b0111, "a b c d.", 0);
        reads(x, 0b1111, "a b c d. e.", 0);
        reads(x, 0b1000, "e.", 0);
        isNotSound(x, 0b0010, 0);
        isNotSound(x, 0b0100, 0);
        isNotSound(x, 0b0101, 0);
        isNotSound(x, 0b1110, 0);
        CHECK.due("count(4)", 8, x.count(4));
    }

    private static void aListKeepsAnItem() {
        ShortTeller x = Check.of("a {b|c {d|e}} (f {g|h}).");
        //                        0  1 2  3 4    5  6 7
        isNotSound(x, 0b00000001, 0);
        reads(x, 0b00000011, "a b.", 0);
        isNotSound(x, 0b00000101, 0);
        reads(x, 0b00001101, "a c d.", 0);
        reads(x, 0b00011111, "a b and c d and e.", 0);
        isNotSound(x, 0b00001011, 0);
        isNotSound(x, 0b00100011, 0);
        reads(x, 0b10100011, "a b f h.", 0);
        isNotSound(x, 0b10000011, 0);
        isNotSound(x, 0b00000010, 0);
    }

    private static void bitsOfNoOption() {
        ShortTeller x = Check.of("a. b.");
        int[] none = {4, 5, 7, 8, 1 << 14, 1 << 30, Integer.MIN_VALUE, -1, Integer.MAX_VALUE};
        for (int choice : none) {
            isNotSound(x, choice, NONE);
        }
        StringBuilder text = new StringBuilder();
        for (int i = 0; i < 14; i++) {
            text.append("a.");
        }
        ShortTeller full = Check.of(text.toString());
        CHECK.due("all of 14", 1, full.sound((1 << 14) - 1));
        isNotSound(full, 1 << 14, NONE);
    }

    private static void listsAreJoinedAnew() {
        ShortTeller x = Check.of("x {a|b|c|d} y.");
        reads(x, 0b11111, "x a, b, c and d y.", 0);
        reads(x, 0b11101, "x b, c and d y.", 0);
        reads(x, 0b10011, "x a and d y.", 0);
        reads(x, 0b01001, "x c y.", 0);
        ShortTeller y = Check.of("{(q) a|(r) b (s)|{c|d|e}}.");
        // the sentence 0, its items 1 (with 2), 3 (with 4 and 5) and 6 (with 7, 8 and 9)
        reads(y, 0b1111111111, "q a, r b s and c, d and e.", 0);
        reads(y, 0b1111001011, "a, b and c, d and e.", 0);
        reads(y, 0b1011001001, "b and c and e.", 0);
        reads(y, 0b1001000001, "e.", 0);
        isNotSound(y, 0b0000010111, 0);
    }

    private static void headingsStayWithSentences() {
        ShortTeller x = Check.of("a. =H one. =I. b. c. =J <5>. d. =K.");
        reads(x, 0b0000, "", 0);
        reads(x, 0b0001, "a.", 0);
        reads(x, 0b0010, "I: b.", 0);
        reads(x, 0b0110, "I: b. c.", 0);
        reads(x, 0b1100, "I: c. J: d.", 0);
        reads(x, 0b1111, "a. I: b. c. J: d.", 0);
        CHECK.due("value(8)", 1, x.value(8));
        CHECK.due("value(7)", 0, x.value(7));
        CHECK.due("count(2)", 4, x.count(2));
    }

    private static void leaningWordsKeepTheirMeaning() {
        ShortTeller x = Check.of("*Al sang. *Bo danced. ~he ate. ~he slept (with *Cy). ~she left. *Bo came. ~he too.");
        //                        0         1           2        3          4        5          6         7
        reads(x, 0b11111111, "Al sang. Bo danced. he ate. he slept with Cy. she left. Bo came. he too.", 0);
        reads(x, 0b00000101, "Al sang. Bo ate.", 1);
        reads(x, 0b00001101, "Al sang. Bo ate. he slept.", 1);
        reads(x, 0b00100011, "Al sang. Bo danced. Cy left.", 1);
        reads(x, 0b10100110, "Bo danced. he ate. Cy left. Bo too.", 2);
        reads(x, 0b10000110, "Bo danced. he ate. he too.", 0);
        reads(x, 0b00100000, "Cy left.", 1);
        reads(x, 0b10001100, "Bo ate. he slept. he too.", 1);
    }

    private static void namesInHeadingsAsidesAndItems() {
        ShortTeller x = Check.of("=On *Al. a. ~he b {*Bo|c} ~she. =On *Cy. =On *Di. ~her d. e (*Ed ~his f). ~it g.");
        //                                 0  1       2   3                       4       5   6               7
        reads(x, 0b00000001, "On Al: a.", 0);
        reads(x, 0b00001010, "On Al: he b c Bo.", 1);
        reads(x, 0b00000110, "On Al: he b Bo she.", 0);
        reads(x, 0b00010000, "On Di: her d.", 0);
        reads(x, 0b00110001, "On Al: a. On Di: her d. e.", 0);
        reads(x, 0b11110000, "On Di: her d. e Ed his f. it g.", 0);
        reads(x, 0b10100000, "On Di: e. Ed g.", 1);
        ShortTeller y = Check.of("=On *Cy. =On *Di. =e. ~her d.");
        reads(y, 1, "e: Di d.", 1);
    }

    private static void sameWordsAreTheSameName() {
        ShortTeller x = Check.of("*Al a. *al b. *Al c. ~he d.");
        reads(x, 0b1001, "Al a. he d.", 0);
        reads(x, 0b1010, "al b. Al d.", 1);
        reads(x, 0b1011, "Al a. al b. Al d.", 1);
        reads(x, 0b1111, "Al a. al b. Al c. he d.", 0);
        ShortTeller y = Check.of("*Al a. *Alb ~Alb c.");
        reads(y, 0b11, "Al a. Alb Alb c.", 0);
    }

    private static void valuesCountAFactOnce() {
        ShortTeller x = Check.of("=H <1>. a <1> <1> <2>. b (c <2>) <3>. d.");
        CHECK.due("weight(1)", 3, x.weight(1));
        CHECK.due("value(0)", 0, x.value(0));
        CHECK.due("value(1)", 5, x.value(1));
        CHECK.due("value(2)", 4, x.value(2));
        CHECK.due("value(6)", 6, x.value(6));
        CHECK.due("value(7)", 6, x.value(7));
        CHECK.due("value(8)", 3, x.value(8));
        x.knows(1, true);
        CHECK.due("value(8) if it is known", 0, x.value(8));
        CHECK.due("value(7) if it is known", 3, x.value(7));
    }

    private static void signsBehindTheEnd() {
        ShortTeller x = Check.of("ab. c.");
        CHECK.due("sign(3, 2)", '.', x.sign(3, 2));
        CHECK.due("sign(3, 3)", ' ', x.sign(3, 3));
        CHECK.due("sign(3, 5)", '.', x.sign(3, 5));
        CHECK.due("sign(2, 1)", '.', x.sign(2, 1));
        CHECK.due("sign(3, 4)", 'c', x.sign(3, 4));
        int[] none = {6, 7, 1000, -1, Integer.MIN_VALUE, Integer.MAX_VALUE};
        for (int k : none) {
            CHECK.due("sign(3, " + k + ")", NONE, x.sign(3, k));
        }
        CHECK.due("sign(0, 0)", NONE, x.sign(0, 0));
        CHECK.due("sign(2, 2)", NONE, x.sign(2, 2));
        Check.take(x, "xy. z.");
        CHECK.due("sign(3, 0) of the next text", 'x', x.sign(3, 0));
    }

    private static void theLongestReading() {
        StringBuilder text = new StringBuilder("a (*ABCDEFGHIJKLMNOPQRST b).");
        StringBuilder read = new StringBuilder("a.");
        for (int sentence = 0; sentence < 6; sentence++) {
            text.append(" (*Z c) *b");
            read.append(" b");
            for (int i = 0; i < 18; i++) {
                text.append("~c*b");
                read.append(" c b");
            }
            text.append('.');
            read.append('.');
        }
        ShortTeller x = Check.of(text.toString());
        reads(x, 0b1010101010101, read.toString(), 0);
        ShortTeller y = Check.of("a (*ABCDEFGHIJKLMNOPQRST b) {~c|~d|~e|~f|~g}.");
        reads(y, 0b1010101, "a ABCDEFGHIJKLMNOPQRST, e and g.", 1);
        reads(y, 0b1111101, "a ABCDEFGHIJKLMNOPQRST, d, e, f and g.", 1);
    }

    private static void asManyWordsAsCanBe() {
        StringBuilder text = new StringBuilder();
        for (int sentence = 0; sentence < 10; sentence++) {
            for (int i = 0; i < 40; i++) {
                text.append((char) ('A' + i % 26)).append(i == 39 ? '.' : ' ');
            }
        }
        String read = text.toString().replace(".", ". ").trim();
        ShortTeller x = Check.of(text.toString());
        CHECK.due("bytes", 800, text.length());
        CHECK.due("words", 400, x.count(3));
        reads(x, 1023, read, 0);
        CHECK.due("count(7)", read.length(), x.count(7));
        reads(x, 512, read.substring(read.length() - 80), 0);
    }

    private static void asManyHeadingsAsCanBe() {
        StringBuilder text = new StringBuilder();
        StringBuilder read = new StringBuilder();
        for (int i = 0; i < 14; i++) {
            text.append("=u. =*H").append(i).append("<").append(i).append(">. =*I").append(i).append(". ~j. ");
            read.append("I").append(i).append(": j. ");
        }
        text.append("=K.");
        ShortTeller x = Check.of(text.toString());
        reads(x, (1 << 14) - 1, read.toString().trim(), 0);
        reads(x, 1 << 13 | 1, "I0: j. I13: j.", 0);
        CHECK.due("value of all", 0, x.value((1 << 14) - 1));
        CHECK.due("count(2)", 43, x.count(2));
        CHECK.due("count(5)", (1 << 14) - 1, x.count(5));
    }
}
