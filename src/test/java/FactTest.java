/** Promises 5, 6, 7 and 17: option, knows, weight, count. */
public final class FactTest {
    private static final int NONE = ShortTeller.NONE;
    private static final int[] FAR = {-1, Integer.MIN_VALUE, Integer.MAX_VALUE};
    private static final Check CHECK = new Check("FactTest");

    public static void main(String[] args) {
        optionsOfAllKinds();
        noSuchOption();
        weightsOfFacts();
        knownFacts();
        noSuchFact();
        counts();
        CHECK.end();
    }

    private static void optionsOfAllKinds() {
        //                    option: 0   1  2                3  4     5        6
        ShortTeller x = Check.of("=H <9>. a <1> {b <2>|(c <1> d) e <3>|f {g|h} <4>} i (j <30>) <0>.");
        int[][] want = {
            {0, NONE, 10, 1 << 1 | 1},
            {2, 0, 1, 1 << 2},
            {2, 0, 3, 1 << 3},
            {1, 2, 2, 1 << 1},
            {2, 0, 3, 1 << 4},
            {2, 4, 1, 0},
            {2, 4, 1, 0},
            {1, 0, 1, 1 << 30},
        };
        CHECK.due("options", want.length, x.count(0));
        for (int option = 0; option < want.length; option++) {
            for (int what = 0; what < 4; what++) {
                CHECK.due("option(" + option + ", " + what + ")", want[option][what], Check.option(x, option, what));
            }
        }
        ShortTeller y = Check.of("(a) {(b) c|d} e. f.");
        int[] around = {NONE, 0, 0, 2, 0, NONE};
        int[] kinds = {0, 1, 2, 1, 2, 0};
        for (int option = 0; option < around.length; option++) {
            CHECK.due("around " + option, around[option], Check.option(y, option, 1));
            CHECK.due("kind of " + option, kinds[option], Check.option(y, option, 0));
        }
    }

    private static void noSuchOption() {
        ShortTeller x = Check.of("a (b).");
        CHECK.due("option(1, 3)", 0, Check.option(x, 1, 3));
        CHECK.due("option(2, 0)", Check.INDEX, Check.option(x, 2, 0));
        CHECK.due("option(14, 0)", Check.INDEX, Check.option(x, 14, 0));
        CHECK.due("option(2, 9)", Check.INDEX, Check.option(x, 2, 9));
        CHECK.due("option(0, 4)", Check.ELEMENT, Check.option(x, 0, 4));
        for (int far : FAR) {
            CHECK.due("option(" + far + ", 0)", Check.INDEX, Check.option(x, far, 0));
            CHECK.due("option(" + far + ", -1)", Check.INDEX, Check.option(x, far, -1));
            CHECK.due("option(1, " + far + ")", Check.ELEMENT, Check.option(x, 1, far));
        }
        ShortTeller onlyHeading = Check.of("=a.");
        CHECK.due("a heading is no option", Check.INDEX, Check.option(onlyHeading, 0, 0));
    }

    private static void weightsOfFacts() {
        ShortTeller x = Check.of("=H <0> <0>. =I <0>. a <0> <7>. b (c <7>) {d <7>|e <30>}.");
        CHECK.due("weight(0)", 4, x.weight(0));
        CHECK.due("weight(7)", 3, x.weight(7));
        CHECK.due("weight(30)", 1, x.weight(30));
        CHECK.due("weight(1)", NONE, x.weight(1));
        CHECK.due("weight(31)", NONE, x.weight(31));
        CHECK.due("weight(32)", NONE, x.weight(32));
        for (int far : FAR) {
            CHECK.due("weight(" + far + ")", NONE, x.weight(far));
        }
        CHECK.due("weight(7) after the others", 3, x.weight(7));
    }

    private static void knownFacts() {
        ShortTeller x = Check.of("a <3> <3>. b <4>.");
        CHECK.due("value(3)", 3, x.value(3));
        CHECK.due("knows(3, true)", true, x.knows(3, true));
        CHECK.due("knows(3, true) again", true, x.knows(3, true));
        CHECK.due("weight(3)", 0, x.weight(3));
        CHECK.due("weight(4)", 1, x.weight(4));
        CHECK.due("value(3)", 1, x.value(3));
        CHECK.due("count(5)", 24, x.count(5));
        CHECK.due("count(6)", 8, x.count(6));
        CHECK.due("best(9)", 2, x.best(9));
        CHECK.due("knows(4, false)", true, x.knows(4, false));
        CHECK.due("knows(4, true)", true, x.knows(4, true));
        CHECK.due("best(9)", 0, x.best(9));
        CHECK.due("knows(3, false)", true, x.knows(3, false));
        CHECK.due("knows(3, false) again", true, x.knows(3, false));
        CHECK.due("weight(3)", 2, x.weight(3));
        CHECK.due("count(6)", 16, x.count(6));
        CHECK.due("best(9)", 1, x.best(9));
        CHECK.due("value(3)", 2, x.value(3));
    }

    private static void noSuchFact() {
        ShortTeller x = Check.of("a <3> <30>.");
        int[] none = {0, 2, 29, 31, 32, 35, 62, 63};
        for (int fact : none) {
            CHECK.due("knows(" + fact + ", true)", false, x.knows(fact, true));
            CHECK.due("knows(" + fact + ", false)", false, x.knows(fact, false));
        }
        for (int far : FAR) {
            CHECK.due("knows(" + far + ", true)", false, x.knows(far, true));
        }
        CHECK.due("count(6)", 0, x.count(6));
        CHECK.due("knows(30, true)", true, x.knows(30, true));
        CHECK.due("count(6)", 1 << 30, x.count(6));
    }

    private static void counts() {
        ShortTeller x = Check.of("=A b. =C. *D {e|f (g)|h} <1>. =I <2>. ~j. k <1>. =L.");
        int[] want = {7, 3, 4, 12, 48, 6, 0, "C: D e, f g and h. I: j. k.".length()};
        for (int what = 0; what < want.length; what++) {
            CHECK.due("count(" + what + ")", want[what], x.count(what));
        }
        CHECK.due("read", "C: D e, f g and h. I: j. k.", Check.read(x, 127));
        CHECK.due("count(8)", NONE, x.count(8));
        for (int far : FAR) {
            CHECK.due("count(" + far + ")", NONE, x.count(far));
        }
        ShortTeller y = Check.of("=A. =B <3>.");
        CHECK.due("only headings: options", 0, y.count(0));
        CHECK.due("only headings: sentences", 0, y.count(1));
        CHECK.due("only headings: headings", 2, y.count(2));
        CHECK.due("only headings: words", 2, y.count(3));
        CHECK.due("only headings: sound", 1, y.count(4));
        CHECK.due("only headings: facts", 8, y.count(5));
        CHECK.due("only headings: length", 0, y.count(7));
    }
}
