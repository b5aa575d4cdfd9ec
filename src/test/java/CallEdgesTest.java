/** The edges that promises 1 to 7 and 17 name: one method for each of them. */
public final class CallEdgesTest {
    private static final int NONE = ShortTeller.NONE;
    private static final int NOT_SO_MANY = -2;
    private static final int LOWEST = Integer.MIN_VALUE;
    private static final int HIGHEST = Integer.MAX_VALUE;
    private static final Check CHECK = new Check("CallEdgesTest");

    public static void main(String[] args) {
        aNewObject();
        theTapeIsFullWithEightHundred();
        aRefusedFeedLeavesTheTape();
        bytesOfNegativeNumbers();
        textOfLessThanNothing();
        textOfNothing();
        textOfAsManyAsThereAre();
        textOfOneMore();
        aRefusedTextLeavesAll();
        aTextWithAFault();
        theTapeIsEmptyBehindAText();
        faultBeforeAText();
        faultBehindARefusedText();
        anotherWhatOfAFault();
        noSuchOption();
        noSuchWhatOfAnOption();
        theLastOfFourteenOptions();
        optionsWithinNone();
        wordsWithThoseOfOptionsInIt();
        factsToldByItItself();
        noSuchFact();
        aFactKnownTwice();
        aFactNotAnyMore();
        allFactsKnown();
        weightInAsManyPlacesAsCanBe();
        weightOfAFactThatIsNeverTold();
        eachCountOfAnEmptyText();
        eachCountAtItsMost();
        anotherWhatOfACount();
        CHECK.end();
    }

    private static int feedBlanks(ShortTeller x) {
        return x.feed(0x20202020, 0x20202020, 0x20202020, 0x20202020, 0x20202020);
    }

    private static ShortTeller withFullTape() {
        ShortTeller x = new ShortTeller();
        x.feed(0x612e2020, 0x20202020, 0x20202020, 0x20202020, 0x20202020);
        for (int i = 0; i < 38; i++) {
            feedBlanks(x);
        }
        CHECK.due("the 40th feed", 800, x.feed(0x20202020, 0x20202020, 0x20202020, 0x20202020, 0x2020622e));
        return x;
    }

    private static void counts(String when, ShortTeller x, int... want) {
        for (int what = 0; what < want.length; what++) {
            CHECK.due(when + " count(" + what + ")", want[what], x.count(what));
        }
    }

    private static void aNewObject() {
        CHECK.due("NONE", -1, NONE);
        counts("new", new ShortTeller(), 0, 0, 0, 0, 1, 0, 0, 0);
        CHECK.due("new text(0)", 0, new ShortTeller().text(0));
        CHECK.due("new text(1)", NOT_SO_MANY, new ShortTeller().text(1));
        CHECK.due("new feed", 20, new ShortTeller().feed(0, 0, 0, 0, 0));
        CHECK.due("new sound(0)", 1, new ShortTeller().sound(0));
        CHECK.due("new sound(1)", NONE, new ShortTeller().sound(1));
        CHECK.due("new length(0)", 0, new ShortTeller().length(0));
        CHECK.due("new value(0)", 0, new ShortTeller().value(0));
        CHECK.due("new sign(0, 0)", NONE, new ShortTeller().sign(0, 0));
        CHECK.due("new best(0)", 0, new ShortTeller().best(0));
        CHECK.due("new best(-1)", NONE, new ShortTeller().best(-1));
        CHECK.due("new ranked(0)", 0, new ShortTeller().ranked(0));
        CHECK.due("new ranked(1)", NONE, new ShortTeller().ranked(1));
        CHECK.due("new least(0)", 0, new ShortTeller().least(0));
        CHECK.due("new least(1)", NONE, new ShortTeller().least(1));
        CHECK.due("new turned(0, 0)", NONE, new ShortTeller().turned(0, 0));
        CHECK.due("new named(0)", 0, new ShortTeller().named(0));
        CHECK.due("new knows(0, true)", false, new ShortTeller().knows(0, true));
        CHECK.due("new weight(0)", NONE, new ShortTeller().weight(0));
        CHECK.due("new option(0, 0)", Check.INDEX, Check.option(new ShortTeller(), 0, 0));
    }

    private static void theTapeIsFullWithEightHundred() {
        ShortTeller x = new ShortTeller();
        for (int i = 1; i <= 40; i++) {
            CHECK.due("feed " + i, 20 * i, feedBlanks(x));
        }
        CHECK.due("feed 41", NONE, feedBlanks(x));
        CHECK.due("feed 42", NONE, feedBlanks(x));
    }

    private static void aRefusedFeedLeavesTheTape() {
        ShortTeller x = withFullTape();
        CHECK.due("one feed more", NONE, x.feed(-1, -1, -1, -1, -1));
        CHECK.due("text(801)", NOT_SO_MANY, x.text(801));
        CHECK.due("text(820)", NOT_SO_MANY, x.text(820));
        CHECK.due("text(800)", 2, x.text(800));
        CHECK.due("read", "a. b.", Check.read(x, 3));
    }

    private static void bytesOfNegativeNumbers() {
        ShortTeller x = new ShortTeller();
        // 0xe1 would be an a without its highest bit.
        x.feed(0xe12e2020, 0, 0, 0, 0);
        CHECK.due("text with byte 0xe1", NONE, x.text(4));
        CHECK.due("its place", 0, x.fault(1));
        x.feed(0x612effff, 0, 0, 0, 0);
        CHECK.due("text with byte 0xff", NONE, x.text(4));
        CHECK.due("its place", 2, x.fault(1));
        x.feed(0x612eff80, 0, 0, 0, 0);
        CHECK.due("text ahead of them", 1, x.text(2));
    }

    private static void textOfLessThanNothing() {
        ShortTeller x = withFullTape();
        CHECK.due("text(-1)", NOT_SO_MANY, x.text(-1));
        CHECK.due("text(-2)", NOT_SO_MANY, x.text(-2));
        CHECK.due("text(-800)", NOT_SO_MANY, x.text(-800));
        CHECK.due("text(LOWEST)", NOT_SO_MANY, x.text(LOWEST));
        CHECK.due("the tape stays", NONE, feedBlanks(x));
    }

    private static void textOfNothing() {
        ShortTeller x = Check.of("=H. *Al <1>. ~he {a|b}.");
        x.knows(1, true);
        CHECK.due("text(0) with an empty tape", 0, x.text(0));
        counts("text(0)", x, 0, 0, 0, 0, 1, 0, 0, 0);
        CHECK.due("fault(0)", 0, x.fault(0));
        CHECK.due("weight(1)", NONE, x.weight(1));
        ShortTeller y = withFullTape();
        CHECK.due("text(0) with a full tape", 0, y.text(0));
        CHECK.due("the tape is empty", 20, feedBlanks(y));
    }

    private static void textOfAsManyAsThereAre() {
        CHECK.due("text(800)", 2, withFullTape().text(800));
        CHECK.due("text(799)", NONE, withFullTape().text(799));
        CHECK.due("text(2)", 1, withFullTape().text(2));
        ShortTeller x = new ShortTeller();
        x.feed(0x20202020, 0x20202020, 0x20202020, 0x20202020, 0x2020612e);
        CHECK.due("text(20)", 1, x.text(20));
    }

    private static void textOfOneMore() {
        ShortTeller x = withFullTape();
        CHECK.due("text(801)", NOT_SO_MANY, x.text(801));
        CHECK.due("text(HIGHEST)", NOT_SO_MANY, x.text(HIGHEST));
        ShortTeller y = new ShortTeller();
        feedBlanks(y);
        CHECK.due("text(21)", NOT_SO_MANY, y.text(21));
        CHECK.due("the tape stays", 40, feedBlanks(y));
        // What stood on the tape ahead of an earlier text is not there any more.
        CHECK.due("text(1)", 0, y.text(1));
        CHECK.due("text(1) again", NOT_SO_MANY, y.text(1));
    }

    private static void aRefusedTextLeavesAll() {
        ShortTeller x = Check.of("a <1> (b <2>). =H.");
        x.knows(2, true);
        x.ranked(0);
        CHECK.due("text(-1)", NOT_SO_MANY, x.text(-1));
        CHECK.due("text(1)", NOT_SO_MANY, x.text(1));
        counts("behind a refused text", x, 2, 1, 1, 3, 3, 6, 4, 4);
        CHECK.due("weight(2)", 0, x.weight(2));
        CHECK.due("value(3)", 1, x.value(3));
        CHECK.due("ranked(0)", 1, x.ranked(0));
        CHECK.due("read", "a b.", Check.read(x, 3));
    }

    private static void aTextWithAFault() {
        ShortTeller x = Check.of("a <1> (b <2>). =H.");
        x.knows(2, true);
        x.ranked(0);
        Check.feed(x, Check.bytesOf("a <1> (b <2>). ="));
        CHECK.due("text(16)", NONE, x.text(16));
        CHECK.due("fault(0)", 1, x.fault(0));
        CHECK.due("fault(1)", 16, x.fault(1));
        counts("behind a fault", x, 0, 0, 0, 0, 1, 0, 0, 0);
        CHECK.due("the tape is empty", NOT_SO_MANY, x.text(1));
        CHECK.due("the next text", 1, Check.take(x, "a <2>."));
        CHECK.due("nothing is known", 1, x.weight(2));
        CHECK.due("fault(0) of the next text", 0, x.fault(0));
        CHECK.due("fault(1) of the next text", NONE, x.fault(1));
    }

    private static void theTapeIsEmptyBehindAText() {
        ShortTeller x = withFullTape();
        CHECK.due("text(2)", 1, x.text(2));
        CHECK.due("the rest is gone", NOT_SO_MANY, x.text(1));
        CHECK.due("feed behind it", 20, feedBlanks(x));
        for (int i = 2; i <= 40; i++) {
            CHECK.due("feed " + i + " behind it", 20 * i, feedBlanks(x));
        }
        CHECK.due("feed 41 behind it", NONE, feedBlanks(x));
    }

    private static void faultBeforeAText() {
        ShortTeller x = new ShortTeller();
        CHECK.due("fault(0)", 0, x.fault(0));
        CHECK.due("fault(1)", NONE, x.fault(1));
        CHECK.due("fault(2)", NONE, x.fault(2));
        x.text(-1);
        CHECK.due("fault(0) behind text(-1)", 0, x.fault(0));
        CHECK.due("fault(1) behind text(-1)", NONE, x.fault(1));
    }

    private static void faultBehindARefusedText() {
        ShortTeller x = Check.of("ab )");
        x.text(-1);
        x.text(1);
        CHECK.due("fault(0)", 1, x.fault(0));
        CHECK.due("fault(1)", 3, x.fault(1));
        x.text(0);
        CHECK.due("fault(0) behind text(0)", 0, x.fault(0));
        CHECK.due("fault(1) behind text(0)", NONE, x.fault(1));
    }

    private static void anotherWhatOfAFault() {
        ShortTeller[] tellers = {new ShortTeller(), Check.of("a."), Check.of("a")};
        int[] others = {-2, -1, 2, 3, 32, LOWEST, LOWEST + 1, HIGHEST};
        for (ShortTeller x : tellers) {
            for (int what : others) {
                CHECK.due("fault(" + what + ")", NONE, x.fault(what));
            }
        }
    }

    private static void noSuchOption() {
        int[] none = {2, 3, 13, 14, 15, 28, 29, 30, 31, 32, -1, -2, LOWEST, HIGHEST};
        ShortTeller x = Check.of("=H. a (b).");
        for (int option : none) {
            for (int what = -1; what <= 4; what++) {
                CHECK.due("option(" + option + ", " + what + ")", Check.INDEX, Check.option(x, option, what));
            }
        }
        CHECK.due("a text of headings", Check.INDEX, Check.option(Check.of("=H."), 0, 0));
        CHECK.due("a text with a fault", Check.INDEX, Check.option(Check.of("a (b)"), 0, 0));
        CHECK.due("the next text has fewer", Check.INDEX, Check.option(withNextText("a (b).", "a."), 1, 0));
    }

    private static ShortTeller withNextText(String first, String next) {
        ShortTeller x = Check.of(first);
        Check.take(x, next);
        return x;
    }

    private static void noSuchWhatOfAnOption() {
        int[] none = {-2, -1, 4, 5, 32, LOWEST, HIGHEST};
        ShortTeller x = Check.of("a (b).");
        for (int what : none) {
            CHECK.due("option(0, " + what + ")", Check.ELEMENT, Check.option(x, 0, what));
            CHECK.due("option(1, " + what + ")", Check.ELEMENT, Check.option(x, 1, what));
        }
        CHECK.due("both are none", Check.INDEX, Check.option(x, 2, 4));
        CHECK.due("option(1, 0) after all", 1, Check.option(x, 1, 0));
    }

    private static void theLastOfFourteenOptions() {
        ShortTeller x = Check.of("a.b.c.d.e.f.g.h.i.j.k.l.m (n <30>).");
        CHECK.due("option(13, 0)", 1, Check.option(x, 13, 0));
        CHECK.due("option(13, 1)", 12, Check.option(x, 13, 1));
        CHECK.due("option(13, 2)", 1, Check.option(x, 13, 2));
        CHECK.due("option(13, 3)", 1 << 30, Check.option(x, 13, 3));
        CHECK.due("option(14, 0)", Check.INDEX, Check.option(x, 14, 0));
    }

    private static void optionsWithinNone() {
        ShortTeller x = Check.of("=H. a. =I. {b|c (d)}.");
        int[] within = {NONE, NONE, 1, 1, 3};
        for (int option = 0; option < within.length; option++) {
            CHECK.due("option(" + option + ", 1)", within[option], Check.option(x, option, 1));
        }
    }

    private static void wordsWithThoseOfOptionsInIt() {
        ShortTeller x = Check.of("a ".repeat(15) + "(" + "b ".repeat(20) + "(c)) {d|(e (f)) g}.");
        int[] words = {40, 21, 1, 1, 3, 2, 1};
        for (int option = 0; option < words.length; option++) {
            CHECK.due("option(" + option + ", 2)", words[option], Check.option(x, option, 2));
        }
    }

    private static void factsToldByItItself() {
        ShortTeller x = Check.of("=H <9>. <0> a <30> (b <1> <1> {c|d <2> (e <3>)} <4>) <5>.");
        int[] facts = {1 | 1 << 30 | 1 << 5, 1 << 1 | 1 << 4, 0, 1 << 2, 1 << 3};
        for (int option = 0; option < facts.length; option++) {
            CHECK.due("option(" + option + ", 3)", facts[option], Check.option(x, option, 3));
        }
        StringBuilder all = new StringBuilder("a");
        for (int fact = 0; fact <= 30; fact++) {
            all.append('<').append(fact).append('>');
        }
        CHECK.due("all 31 facts", HIGHEST, Check.option(Check.of(all.append('.').toString()), 0, 3));
    }

    private static void noSuchFact() {
        ShortTeller x = Check.of("a <0> <30>.");
        int[] none = {1, 15, 29, 31, 32, 33, 62, 64, -1, -2, -32, LOWEST, HIGHEST};
        for (int fact : none) {
            CHECK.due("knows(" + fact + ", true)", false, x.knows(fact, true));
            CHECK.due("knows(" + fact + ", false)", false, x.knows(fact, false));
            CHECK.due("weight(" + fact + ")", NONE, x.weight(fact));
        }
        CHECK.due("count(6)", 0, x.count(6));
        CHECK.due("weight(0)", 1, x.weight(0));
        CHECK.due("weight(30)", 1, x.weight(30));
        Check.take(x, "a <1>.");
        CHECK.due("a fact of the text ahead", false, x.knows(0, true));
        CHECK.due("its weight", NONE, x.weight(0));
        Check.take(x, "a <1>");
        CHECK.due("a fact of a text with a fault", false, x.knows(1, true));
        CHECK.due("its weight", NONE, x.weight(1));
    }

    private static void aFactKnownTwice() {
        ShortTeller x = Check.of("a <0> <0>. b <30>.");
        for (int i = 0; i < 2; i++) {
            CHECK.due("knows(0, true)", true, x.knows(0, true));
            CHECK.due("weight(0)", 0, x.weight(0));
            CHECK.due("count(6)", 1, x.count(6));
            CHECK.due("value(3)", 1, x.value(3));
            CHECK.due("best(9)", 2, x.best(9));
        }
        CHECK.due("knows(0, false)", true, x.knows(0, false));
        CHECK.due("once is enough", 2, x.weight(0));
        CHECK.due("best(4)", 1, x.best(4));
    }

    private static void aFactNotAnyMore() {
        ShortTeller x = Check.of("a <0> <0>. b <30>.");
        CHECK.due("knows(30, false) at first", true, x.knows(30, false));
        CHECK.due("weight(30)", 1, x.weight(30));
        CHECK.due("count(6)", 0, x.count(6));
        x.knows(30, true);
        CHECK.due("count(6) if it is known", 1 << 30, x.count(6));
        for (int i = 0; i < 2; i++) {
            CHECK.due("knows(30, false)", true, x.knows(30, false));
            CHECK.due("weight(30)", 1, x.weight(30));
            CHECK.due("count(6)", 0, x.count(6));
            CHECK.due("best(9)", 3, x.best(9));
        }
    }

    private static void allFactsKnown() {
        StringBuilder text = new StringBuilder();
        for (int fact = 0; fact <= 30; fact++) {
            text.append("a<").append(fact).append(fact % 3 == 2 ? ">. " : "> ");
        }
        ShortTeller x = Check.of(text.append(".").toString());
        CHECK.due("count(5)", HIGHEST, x.count(5));
        CHECK.due("value of all", 31, x.value((1 << 11) - 1));
        for (int fact = 0; fact <= 30; fact++) {
            CHECK.due("knows(" + fact + ", true)", true, x.knows(fact, true));
        }
        CHECK.due("count(6)", HIGHEST, x.count(6));
        CHECK.due("value of all if all is known", 0, x.value((1 << 11) - 1));
        CHECK.due("best(800)", 0, x.best(800));
        CHECK.due("least of all", x.count(7), x.least(HIGHEST));
    }

    private static void weightInAsManyPlacesAsCanBe() {
        ShortTeller x = Check.of("a" + "<7>".repeat(266) + ".");
        CHECK.due("weight(7)", 266, x.weight(7));
        CHECK.due("value(1)", 266, x.value(1));
        CHECK.due("ranked(0)", 1, x.ranked(0));
        x.knows(7, true);
        CHECK.due("weight(7) if it is known", 0, x.weight(7));
        CHECK.due("ranked(0) if it is known", 0, x.ranked(0));
    }

    private static void weightOfAFactThatIsNeverTold() {
        ShortTeller x = Check.of("=H <1> <1>. =I <2>. a <2>. =J <3>.");
        CHECK.due("weight(1)", 2, x.weight(1));
        CHECK.due("weight(2)", 2, x.weight(2));
        CHECK.due("weight(3)", 1, x.weight(3));
        CHECK.due("count(5)", 14, x.count(5));
        CHECK.due("value(1)", 2, x.value(1));
        CHECK.due("knows(1, true)", true, x.knows(1, true));
        CHECK.due("weight(1) if it is known", 0, x.weight(1));
        CHECK.due("count(6)", 2, x.count(6));
    }

    private static void eachCountOfAnEmptyText() {
        int[] empty = {0, 0, 0, 0, 1, 0, 0, 0};
        counts("text(0)", withNextText("a <1>.", ""), empty);
        counts("blanks", withNextText("a <1>.", " \n "), empty);
        counts("a fault", withNextText("a <1>.", "a <1>"), empty);
        counts("headings", Check.of("=a <3>. =b c."), 0, 0, 2, 3, 1, 8, 0, 0);
    }

    private static void eachCountAtItsMost() {
        CHECK.due("most options", 14, Check.of("a.".repeat(14)).count(0));
        CHECK.due("most sentences", 14, Check.of("a.".repeat(14)).count(1));
        CHECK.due("most headings", 266, Check.of("=a.".repeat(266)).count(2));
        CHECK.due("most words", 400, Check.of(("a ".repeat(39) + "a.").repeat(10)).count(3));
        CHECK.due("most sound choices", 16384, Check.of("a.".repeat(14)).count(4));
        CHECK.due("sound choices of nested asides", 6 * 6 * 5,
                Check.of("a(b(c(d(e)))).a(b(c(d(e)))).a(b(c(d))).").count(4));
        CHECK.due("the highest fact", 1 << 30, Check.of("a <30>.").count(5));
        CHECK.due("the lowest fact", 1, Check.of("a <0>.").count(5));
        CHECK.due("the longest", 800 + 9, Check.of(("a ".repeat(39) + "a.").repeat(10)).count(7));
    }

    private static void anotherWhatOfACount() {
        ShortTeller[] tellers = {new ShortTeller(), Check.of("a."), Check.of("a")};
        int[] others = {-2, -1, 8, 9, 32, LOWEST, LOWEST + 4, HIGHEST};
        for (ShortTeller x : tellers) {
            for (int what : others) {
                CHECK.due("count(" + what + ")", NONE, x.count(what));
            }
        }
    }
}
