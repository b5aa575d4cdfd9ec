/** Promises 1 to 4: a new object, feed, text, fault. */
public final class TapeTest {
    private static final int NONE = ShortTeller.NONE;
    private static final Check CHECK = new Check("TapeTest");

    public static void main(String[] args) {
        aNewObjectIsEmpty();
        theTapeHoldsEightHundredBytes();
        theHighestByteComesFirst();
        aTextIsTheFirstBytesOfTheTape();
        aRefusedTextChangesNothing();
        aTextForgetsWhatTheReaderKnew();
        aFaultLeavesAnEmptyText();
        aFaultIsOfTheLatestText();
        CHECK.end();
    }

    private static void isEmpty(String when, ShortTeller x) {
        int[] counts = {0, 0, 0, 0, 1, 0, 0, 0};
        for (int what = 0; what < counts.length; what++) {
            CHECK.due(when + " count(" + what + ")", counts[what], x.count(what));
        }
        CHECK.due(when + " option(0, 0)", Check.INDEX, Check.option(x, 0, 0));
        CHECK.due(when + " sound(0)", 1, x.sound(0));
        CHECK.due(when + " sound(1)", NONE, x.sound(1));
        CHECK.due(when + " sound(-1)", NONE, x.sound(-1));
        CHECK.due(when + " length(0)", 0, x.length(0));
        CHECK.due(when + " value(0)", 0, x.value(0));
        CHECK.due(when + " named(0)", 0, x.named(0));
        CHECK.due(when + " sign(0, 0)", NONE, x.sign(0, 0));
        CHECK.due(when + " best(0)", 0, x.best(0));
        CHECK.due(when + " ranked(0)", 0, x.ranked(0));
        CHECK.due(when + " ranked(1)", NONE, x.ranked(1));
        CHECK.due(when + " least(0)", 0, x.least(0));
        CHECK.due(when + " least(1)", NONE, x.least(1));
        CHECK.due(when + " turned(0, 0)", NONE, x.turned(0, 0));
        for (int fact = 0; fact < 31; fact++) {
            CHECK.due(when + " weight(" + fact + ")", NONE, x.weight(fact));
            CHECK.due(when + " knows(" + fact + ")", false, x.knows(fact, true));
        }
    }

    private static void aNewObjectIsEmpty() {
        ShortTeller x = new ShortTeller();
        CHECK.due("NONE", -1, NONE);
        isEmpty("new", x);
        CHECK.due("new fault(0)", 0, x.fault(0));
        CHECK.due("new fault(1)", NONE, x.fault(1));
        CHECK.due("new text(1)", -2, x.text(1));
        CHECK.due("new text(0)", 0, x.text(0));
    }

    private static void theTapeHoldsEightHundredBytes() {
        ShortTeller x = new ShortTeller();
        for (int i = 1; i <= 40; i++) {
            CHECK.due("feed " + i, 20 * i, x.feed(0x20202020, 0x20202020, 0x20202020, 0x20202020, 0x20202020));
        }
        CHECK.due("feed too much", NONE, x.feed(1, 2, 3, 4, 5));
        CHECK.due("feed too much again", NONE, x.feed(0, 0, 0, 0, 0));
        CHECK.due("text(801)", -2, x.text(801));
        CHECK.due("text(820)", -2, x.text(820));
        CHECK.due("text(800)", 0, x.text(800));
        CHECK.due("fault(0) of blanks", 0, x.fault(0));
        CHECK.due("feed after a text", 20, x.feed(0, 0, 0, 0, 0));
    }

    private static void theHighestByteComesFirst() {
        ShortTeller x = new ShortTeller();
        x.feed(0x61626364, 0x65666768, 0x696a6b6c, 0x6d6e6f70, 0x7172732e);
        CHECK.due("text(20)", 1, x.text(20));
        CHECK.due("read", "abcdefghijklmnopqrs.", Check.read(x, 1));
        x.feed(0xff61622e, 0, 0, 0, 0);
        CHECK.due("text with byte 255", NONE, x.text(4));
        CHECK.due("its place", 0, x.fault(1));
        x.feed(0x2e2e2e2e, -1, -1, -1, -1);
        x.feed(0x612e2020, 0, 0, 0, 0);
        CHECK.due("a second feed comes behind the first", NONE, x.text(24));
        CHECK.due("its place", 0, x.fault(1));
    }

    private static void aTextIsTheFirstBytesOfTheTape() {
        ShortTeller x = new ShortTeller();
        Check.feed(x, Check.bytesOf("one. two. three. four."));
        CHECK.due("text(9)", 2, x.text(9));
        CHECK.due("read", "one. two.", Check.read(x, 3));
        CHECK.due("the tape is empty", -2, x.text(1));
        CHECK.due("text(0)", 0, x.text(0));
        isEmpty("text(0)", x);
        Check.feed(x, Check.bytesOf("one. two."));
        CHECK.due("text(0) takes nothing", 0, x.text(0));
        CHECK.due("and empties the tape", 20, x.feed(0, 0, 0, 0, 0));
    }

    private static void aRefusedTextChangesNothing() {
        ShortTeller x = Check.of("*Al <3> sang. ~he <4> left.");
        x.knows(3, true);
        Check.feed(x, Check.bytesOf("one. two."));
        int[] refused = {-1, 21, 800, Integer.MIN_VALUE, Integer.MAX_VALUE};
        for (int n : refused) {
            CHECK.due("text(" + n + ")", -2, x.text(n));
        }
        CHECK.due("the text stays", "Al sang. he left.", Check.read(x, 3));
        CHECK.due("what is known stays", 8, x.count(6));
        CHECK.due("no fault", 0, x.fault(0));
        CHECK.due("the tape stays", 40, x.feed(0, 0, 0, 0, 0));
        CHECK.due("text(9)", 2, x.text(9));
        Check.take(x, "a ~b.");
        CHECK.due("text(-1) behind a fault", -2, x.text(-1));
        CHECK.due("the fault stays", 3, x.fault(0));
        CHECK.due("its place stays", 2, x.fault(1));
    }

    private static void aTextForgetsWhatTheReaderKnew() {
        ShortTeller x = Check.of("a <1> <2>.");
        CHECK.due("knows(1, true)", true, x.knows(1, true));
        CHECK.due("best before", 1, x.best(9));
        Check.take(x, "a <1>.");
        CHECK.due("count(6)", 0, x.count(6));
        CHECK.due("weight(1)", 1, x.weight(1));
        CHECK.due("weight(2)", NONE, x.weight(2));
        CHECK.due("value(1)", 1, x.value(1));
        CHECK.due("count(5)", 2, x.count(5));
    }

    private static void aFaultLeavesAnEmptyText() {
        ShortTeller x = Check.of("=H <5>. *Al <1> sang {a|b}. ~he <2> left.");
        x.knows(1, true);
        CHECK.due("before", 4, x.count(0));
        CHECK.due("a text with a fault", NONE, Check.take(x, "=H <5>. *Al <1> sang {a|b}. ~he <2> left. ."));
        isEmpty("behind a fault", x);
        CHECK.due("the tape is empty", -2, x.text(1));
        CHECK.due("a text without one", 1, Check.take(x, "b."));
        CHECK.due("read", "b.", Check.read(x, 1));
    }

    private static void aFaultIsOfTheLatestText() {
        ShortTeller x = Check.of("a");
        CHECK.due("fault(0)", 1, x.fault(0));
        CHECK.due("fault(1)", 1, x.fault(1));
        int[] others = {-1, 2, 3, Integer.MIN_VALUE, Integer.MAX_VALUE};
        for (int what : others) {
            CHECK.due("fault(" + what + ")", NONE, x.fault(what));
        }
        Check.take(x, "a.");
        CHECK.due("fault(0) without", 0, x.fault(0));
        CHECK.due("fault(1) without", NONE, x.fault(1));
    }
}
