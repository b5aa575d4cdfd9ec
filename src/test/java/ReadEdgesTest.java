/** The edges of what is SOUND and READ, and those that promises 8 to 11 and 16 name: one method for each of them. */
public final class ReadEdgesTest {
    private static final int NONE = ShortTeller.NONE;
    private static final int LOWEST = Integer.MIN_VALUE;
    private static final int HIGHEST = Integer.MAX_VALUE;
    private static final String N20 = "ABCDEFGHIJKLMNOPQRST";
    private static final Check CHECK = new Check("ReadEdgesTest");

    public static void main(String[] args) {
        bitsOfOptionsThatThereAreNot();
        bitsBelowZero();
        oneThatIsNotSound();
        theEmptyChoice();
        theChoiceWithAll();
        aListKeepsOneItemAtLeast();
        aListThatIsWithinNothingThatStays();
        oneItemStays();
        twoItemsStay();
        moreItemsStay();
        thirteenItemsStay();
        listsInLists();
        listsSideBySide();
        oneBlankBetween();
        aHeadingWithoutASentenceBehind();
        aHeadingWithoutASentenceThatStays();
        aHeadingAheadOfTheNextOne();
        aLeaningWordWhoseNameStays();
        aLeaningWordWhoseNameGoes();
        aNamePutForALeaningWordIsTheLatest();
        aLeaningWordBehindAnotherName();
        aLeaningWordAheadOfAnotherName();
        aNameInWhatIsLeftOutOfTheSentence();
        namesAreTheSameIfTheWordsAre();
        aLeaningWordLikeItsName();
        namesShorterAndLonger();
        asManyNamesAsCanBe();
        theFirstAndTheLastSign();
        signsBelowZeroAndBehindTheEnd();
        signsOfTwoChoicesInTurn();
        valueOfKnownFacts();
        valueCountsAFactOnce();
        CHECK.end();
    }

    private static void reads(ShortTeller x, int choice, String want, int named) {
        CHECK.due("sound(" + choice + ")", 1, x.sound(choice));
        CHECK.due("read(" + choice + ")", want, Check.read(x, choice));
        CHECK.due("length(" + choice + ")", want.length(), x.length(choice));
        CHECK.due("named(" + choice + ")", named, x.named(choice));
    }

    private static void refused(ShortTeller x, int choice, int sound) {
        CHECK.due("sound(" + choice + ")", sound, x.sound(choice));
        CHECK.due("length(" + choice + ")", NONE, x.length(choice));
        CHECK.due("value(" + choice + ")", NONE, x.value(choice));
        CHECK.due("sign(" + choice + ", 0)", NONE, x.sign(choice, 0));
        CHECK.due("named(" + choice + ")", NONE, x.named(choice));
    }

    private static void bitsOfOptionsThatThereAreNot() {
        for (int options = 0; options <= 14; options++) {
            ShortTeller x = Check.of("a.".repeat(options));
            int all = (1 << options) - 1;
            CHECK.due("all of " + options, 1, x.sound(all));
            refused(x, all + 1, NONE);
            refused(x, 2 * all + 2, NONE);
            refused(x, 1 << 14, NONE);
            refused(x, 1 << 30, NONE);
            refused(x, HIGHEST, NONE);
        }
        // What has such bits is NONE even where it would not be sound without them.
        refused(Check.of("a (b)."), 0b110, NONE);
    }

    private static void bitsBelowZero() {
        for (int options = 0; options <= 14; options += 7) {
            ShortTeller x = Check.of("a.".repeat(options));
            refused(x, -1, NONE);
            refused(x, LOWEST, NONE);
            refused(x, LOWEST + 1, NONE);
            refused(x, -2, NONE);
        }
    }

    private static void oneThatIsNotSound() {
        ShortTeller x = Check.of("a (b (c)) {d|e}.");
        //                        0  1  2    3 4
        for (int choice = 0; choice < 32; choice++) {
            boolean within = (choice & 0b11110) == 0 || (choice & 1) != 0;
            boolean nested = (choice & 0b100) == 0 || (choice & 0b10) != 0;
            boolean listed = (choice & 1) == 0 || (choice & 0b11000) != 0;
            if (within && nested && listed) {
                CHECK.due("sound(" + choice + ")", 1, x.sound(choice));
            } else {
                refused(x, choice, 0);
            }
        }
    }

    private static void theEmptyChoice() {
        String[] texts = {"", "a.", "=H <1>. a <1>.", "*Al. ~he {a|b <3>}. =T.", "=H.", "a.".repeat(14)};
        for (String text : texts) {
            ShortTeller x = Check.of(text);
            reads(x, 0, "", 0);
            CHECK.due("value(0)", 0, x.value(0));
            CHECK.due("sign(0, 0)", NONE, x.sign(0, 0));
        }
    }

    private static void theChoiceWithAll() {
        ShortTeller x = Check.of("=H <1>. *Al (a <2>) {b <3>|c|d {e|f}} . ~he. =T <4>.");
        reads(x, 255, "H: Al a b, c and d e and f. he.", 0);
        CHECK.due("value(255)", 3, x.value(255));
        CHECK.due("count(7)", x.length(255), x.count(7));
        ShortTeller most = Check.of("a.".repeat(14));
        reads(most, 16383, "a. ".repeat(14).trim(), 0);
    }

    private static void aListKeepsOneItemAtLeast() {
        ShortTeller x = Check.of("a {b|c|d}.");
        refused(x, 0b0001, 0);
        reads(x, 0b0011, "a b.", 0);
        reads(x, 0b0101, "a c.", 0);
        reads(x, 0b1001, "a d.", 0);
        ShortTeller both = Check.of("{a|b}{c|d}.");
        refused(both, 0b00111, 0);
        refused(both, 0b11001, 0);
        reads(both, 0b01011, "a c.", 0);
    }

    private static void aListThatIsWithinNothingThatStays() {
        ShortTeller x = Check.of("a (b {c|d}). e {f {g|h}|i}.");
        //                        0  1  2 3    4  5  6 7   8
        reads(x, 0b000000001, "a.", 0);
        refused(x, 0b000000011, 0);
        refused(x, 0b000000101, 0);
        reads(x, 0b000000111, "a b c.", 0);
        reads(x, 0b100010000, "e i.", 0);
        refused(x, 0b000110000, 0);
        refused(x, 0b001010000, 0);
        reads(x, 0b001110000, "e f g.", 0);
    }

    private static void oneItemStays() {
        ShortTeller x = Check.of("a {b c|d|e} f.");
        reads(x, 0b0011, "a b c f.", 0);
        reads(x, 0b1001, "a e f.", 0);
    }

    private static void twoItemsStay() {
        ShortTeller x = Check.of("a {b c|d|e} f.");
        reads(x, 0b0111, "a b c and d f.", 0);
        reads(x, 0b1011, "a b c and e f.", 0);
        reads(x, 0b1101, "a d and e f.", 0);
        reads(Check.of("{a|b}."), 0b111, "a and b.", 0);
    }

    private static void moreItemsStay() {
        ShortTeller x = Check.of("a {b c|d|e|f g}.");
        reads(x, 0b01111, "a b c, d and e.", 0);
        reads(x, 0b11011, "a b c, e and f g.", 0);
        reads(x, 0b11101, "a d, e and f g.", 0);
        reads(x, 0b11111, "a b c, d, e and f g.", 0);
    }

    private static void thirteenItemsStay() {
        ShortTeller x = Check.of("{a|b|c|d|e|f|g|h|i|j|k|l|m}.");
        reads(x, 16383, "a, b, c, d, e, f, g, h, i, j, k, l and m.", 0);
        reads(x, 0b10000000000001, "m.", 0);
        reads(x, 0b10000000000011, "a and m.", 0);
    }

    private static void listsInLists() {
        ShortTeller x = Check.of("{{a|b|c}|{d|e}}.");
        //                       0  12 3 4   5 6 7
        reads(x, 0b11111111, "a, b and c and d and e.", 0);
        reads(x, 0b00011111, "a, b and c.", 0);
        reads(x, 0b01100011 | 0b100, "a and d.", 0);
        reads(x, 0b11100001, "d and e.", 0);
        refused(x, 0b11100011, 0);
    }

    private static void listsSideBySide() {
        reads(Check.of("{a|b}{c|d}."), 31, "a and b c and d.", 0);
        reads(Check.of("{a|b}(e){c|d}."), 63, "a and b e c and d.", 0);
        reads(Check.of("{a|b}(e){c|d}."), 0b110111, "a and b c and d.", 0);
    }

    private static void oneBlankBetween() {
        reads(Check.of("  a\n\n b<1>c \n(d)e*F~g . \n h ."), 7, "a b c d e F g. h.", 0);
        reads(Check.of("\n=  a<1> *B .c."), 1, "a B: c.", 0);
        reads(Check.of("(a)(b)c(d)(e)."), 0b00001, "c.", 0);
        reads(Check.of("<1>(a)<2>c<3>(d)<4>."), 0b001, "c.", 0);
    }

    private static void aHeadingWithoutASentenceBehind() {
        reads(Check.of("=H."), 0, "", 0);
        reads(Check.of("a. =H."), 1, "a.", 0);
        reads(Check.of("=G. =H. a. =I. =J."), 1, "H: a.", 0);
        CHECK.due("its facts", 0, Check.of("a. =H <1>.").value(1));
    }

    private static void aHeadingWithoutASentenceThatStays() {
        ShortTeller x = Check.of("a. =H <1>. b. c. d.");
        reads(x, 0b0001, "a.", 0);
        reads(x, 0b1000, "H: d.", 0);
        reads(x, 0b0100, "H: c.", 0);
        reads(x, 0b1111, "a. H: b. c. d.", 0);
        CHECK.due("value without it", 0, x.value(0b0001));
        CHECK.due("value with it", 1, x.value(0b1000));
    }

    private static void aHeadingAheadOfTheNextOne() {
        ShortTeller x = Check.of("=G <1>. a. =H <2>. b.");
        reads(x, 0b01, "G: a.", 0);
        reads(x, 0b10, "H: b.", 0);
        reads(x, 0b11, "G: a. H: b.", 0);
        CHECK.due("value(1)", 1, x.value(1));
        CHECK.due("value(3)", 2, x.value(3));
    }

    private static void aLeaningWordWhoseNameStays() {
        reads(Check.of("*Al a. ~he b."), 3, "Al a. he b.", 0);
        reads(Check.of("=On *Al. ~he b."), 1, "On Al: he b.", 0);
        reads(Check.of("a (*Al) ~he b."), 3, "a Al he b.", 0);
        reads(Check.of("{*Al|a} ~he."), 7, "Al and a he.", 0);
    }

    private static void aLeaningWordWhoseNameGoes() {
        reads(Check.of("*Al a. ~he b."), 2, "Al b.", 1);
        reads(Check.of("=On *Al. a. =On it. ~he b."), 2, "On it: Al b.", 1);
        reads(Check.of("=On *Al. =On it. ~he b."), 1, "On it: Al b.", 1);
        reads(Check.of("a (*Al) ~he b."), 1, "a Al b.", 1);
        reads(Check.of("{*Al|a} ~he."), 5, "a Al.", 1);
    }

    private static void aNamePutForALeaningWordIsTheLatest() {
        ShortTeller x = Check.of("*Al a. ~he b ~his c. ~he d.");
        reads(x, 0b110, "Al b his c. he d.", 1);
        reads(x, 0b100, "Al d.", 1);
        reads(x, 0b111, "Al a. he b his c. he d.", 0);
    }

    private static void aLeaningWordBehindAnotherName() {
        ShortTeller x = Check.of("*Al a. *Bo b. ~he c. *Al d. ~he e.");
        reads(x, 0b00101, "Al a. Bo c.", 1);
        reads(x, 0b10101, "Al a. Bo c. Al e.", 2);
        reads(x, 0b10110, "Bo b. he c. Al e.", 1);
        reads(x, 0b10001, "Al a. he e.", 0);
        reads(x, 0b11111, "Al a. Bo b. he c. Al d. he e.", 0);
    }

    private static void aLeaningWordAheadOfAnotherName() {
        ShortTeller x = Check.of("*Alma a. ~she met *Bo and ~his *Cy. ~he b.");
        reads(x, 0b111, "Alma a. she met Bo and his Cy. he b.", 0);
        reads(x, 0b110, "Alma met Bo and his Cy. he b.", 1);
        reads(x, 0b101, "Alma a. Cy b.", 1);
        ShortTeller y = Check.of("*Alma a. {~she|~her *Bo|~his *Cy b} c ~it.");
        reads(y, 0b11110, "Alma, her Bo and his Cy b c it.", 1);
        reads(y, 0b10110, "Alma and Bo Cy b c it.", 2);
        reads(y, 0b11010, "Alma Bo and his Cy b c it.", 1);
        reads(y, 0b10010, "Bo Cy b c it.", 1);
        reads(y, 0b01010, "Alma Bo c Cy.", 2);
        reads(y, 0b00111, "Alma a. she c Cy.", 1);
    }

    private static void aNameInWhatIsLeftOutOfTheSentence() {
        ShortTeller x = Check.of("*Al (and *Bo) sang ~his song {of *Cy|of love} to ~him.");
        //                        0    1                         2      3
        reads(x, 0b1111, "Al and Bo sang his song of Cy and of love to him.", 0);
        reads(x, 0b1011, "Al and Bo sang his song of love to Cy.", 1);
        reads(x, 0b1001, "Al sang Bo song of love to Cy.", 2);
        reads(x, 0b0101, "Al sang Bo song of Cy to him.", 1);
    }

    private static void namesAreTheSameIfTheWordsAre() {
        reads(Check.of("*Al a. *Al b. ~he c."), 0b101, "Al a. he c.", 0);
        reads(Check.of("*al a. *Al b. ~he c."), 0b101, "al a. Al c.", 1);
        reads(Check.of("*Al a. *All b. ~he c."), 0b101, "Al a. All c.", 1);
        reads(Check.of("*All a. *Al b. ~he c."), 0b101, "All a. Al c.", 1);
        reads(Check.of("Al a. *Al b. ~he c."), 0b101, "Al a. Al c.", 1);
        // What stands behind a name is not of it.
        reads(Check.of("*Al a. *Bo b. *Al. ~he c."), 0b1001, "Al a. he c.", 0);
        reads(Check.of("*Al. *Bo b. *Al<1>a. ~he c."), 0b1001, "Al. he c.", 0);
    }

    private static void aLeaningWordLikeItsName() {
        reads(Check.of("*Al a. *Bo b. ~Bo c."), 0b101, "Al a. Bo c.", 1);
        reads(Check.of("*Al a. *Bo b. ~Al c."), 0b101, "Al a. Bo c.", 1);
        reads(Check.of("*Al a. ~Al c."), 0b11, "Al a. Al c.", 0);
    }

    private static void namesShorterAndLonger() {
        reads(Check.of("*" + N20 + " a. ~b."), 0b10, N20 + ".", 1);
        reads(Check.of("*B a. ~" + N20 + "."), 0b10, "B.", 1);
        reads(Check.of("*B a. ~" + N20 + "."), 0b11, "B a. " + N20 + ".", 0);
    }

    /** Names of one sign, then of two, each of them another one, forty a sentence. */
    private static void asManyNamesAsCanBe() {
        String signs = "!\"#$%&'+,-/0123456789:;?@ABCDEFGHIJKLMNOPQRSTUVWXYZ[\\]^_`abcdefghijklmnopqrstuvwxyz";
        StringBuilder text = new StringBuilder();
        String name = "";
        int names = 0;
        while (text.length() < 790) {
            char last = signs.charAt(names % signs.length());
            name = (names < signs.length() ? "" : String.valueOf(signs.charAt(names / signs.length()))) + last;
            text.append(names > 0 && names % 40 == 0 ? "." : "").append('*').append(name);
            names++;
        }
        text.append(".~he.");
        ShortTeller x = Check.of(text.toString());
        int sentences = x.count(1);
        CHECK.due("the sentences", (names + 39) / 40 + 1, sentences);
        CHECK.due("the words", names + 1, x.count(3));
        reads(x, 1 << (sentences - 1), name + ".", 1);
        int lastTwo = 3 << (sentences - 2);
        CHECK.due("named behind its name", 0, x.named(lastTwo));
        int firstAndLast = 1 << (sentences - 1) | 1;
        CHECK.due("named behind another name", 1, x.named(firstAndLast));
    }

    private static void theFirstAndTheLastSign() {
        ShortTeller x = Check.of("=Hm. *Al a. ~he b.");
        CHECK.due("sign(3, 0)", 'H', x.sign(3, 0));
        CHECK.due("sign(3, 2)", ':', x.sign(3, 2));
        CHECK.due("sign(3, 3)", ' ', x.sign(3, 3));
        CHECK.due("sign(3, last)", '.', x.sign(3, x.length(3) - 1));
        CHECK.due("sign(3, behind the last)", NONE, x.sign(3, x.length(3)));
        CHECK.due("sign(2, last)", '.', x.sign(2, x.length(2) - 1));
        CHECK.due("sign(2, behind the last)", NONE, x.sign(2, x.length(2)));
        reads(Check.of("!\"#$%&'+,-/ :;?@[\\]^_`."), 1, "!\"#$%&'+,-/ :;?@[\\]^_`.", 0);
    }

    private static void signsBelowZeroAndBehindTheEnd() {
        ShortTeller x = Check.of("ab. c.");
        int[] none = {-1, -2, LOWEST, 6, 7, 800, 20000, HIGHEST};
        for (int k : none) {
            CHECK.due("sign(3, " + k + ")", NONE, x.sign(3, k));
            CHECK.due("sign(0, " + k + ")", NONE, x.sign(0, k));
        }
        CHECK.due("sign(3, 5)", '.', x.sign(3, 5));
    }

    private static void signsOfTwoChoicesInTurn() {
        ShortTeller x = Check.of("ab. cde.");
        for (int i = 0; i < 2; i++) {
            CHECK.due("sign(3, 7)", '.', x.sign(3, 7));
            CHECK.due("sign(1, 7)", NONE, x.sign(1, 7));
            CHECK.due("sign(2, 0)", 'c', x.sign(2, 0));
            CHECK.due("sign(0, 0)", NONE, x.sign(0, 0));
        }
        Check.take(x, "x.");
        CHECK.due("sign(1, 0) of the next text", 'x', x.sign(1, 0));
        CHECK.due("sign(1, 2) of the next text", NONE, x.sign(1, 2));
        CHECK.due("sign(3, 0) of the next text", NONE, x.sign(3, 0));
        Check.take(x, "yz.");
        CHECK.due("sign(1, 0) of the text behind it", 'y', x.sign(1, 0));
        CHECK.due("sign(1, 2) of the text behind it", '.', x.sign(1, 2));
    }

    private static void valueOfKnownFacts() {
        ShortTeller x = Check.of("=H <0>. a <30> <30>.");
        CHECK.due("value(1)", 3, x.value(1));
        x.knows(30, true);
        CHECK.due("value(1) without 30", 1, x.value(1));
        x.knows(0, true);
        CHECK.due("value(1) without both", 0, x.value(1));
        x.knows(30, false);
        CHECK.due("value(1) without 0", 2, x.value(1));
    }

    private static void valueCountsAFactOnce() {
        ShortTeller x = Check.of("=H <1>. a <1> <1> (b <1>). c <1>.");
        CHECK.due("weight(1)", 5, x.weight(1));
        for (int choice = 1; choice < 8; choice++) {
            if (x.sound(choice) == 1) {
                CHECK.due("value(" + choice + ")", 5, x.value(choice));
            }
        }
    }
}
