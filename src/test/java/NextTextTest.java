/** Promise 3: a text leaves nothing of the one ahead of it, whatever was asked of that. */
public final class NextTextTest {
    private static final Check CHECK = new Check("NextTextTest");

    private static final String[] TEXTS = {
        "",
        "a.",
        "b <1>. cc <1>. d.",
        "=Head <1>. a <2>. =I. b.",
        "*Al a. *Bo b. ~he c <3> <3>. ~she d.",
        "*Bo a. *Al b. *Bo (*Cy c) ~it d.",
        "{a|b}.",
        "x {a <4>|b|c {d|e <5>}} (f <1>).",
        "a (b (c (d (e <30>)))) <0>.",
        "words words words words words words words words words. *Zo. *Yo <2>. *Xo. ~he <1>.",
        "*Xo (*Yo b). ~he c.",
        "=A <7>. =B <8> . =*C <9>. ~he. =D.",
        "ab <1> cd",
        "~x.",
        "{a|b} {c}.",
        "{<1>|b}.",
        "=Head <1>. *Al <2> {b|c (d ~he)}. e )",
        "a.".repeat(15),
    };

    public static void main(String[] args) {
        for (String first : TEXTS) {
            for (String next : TEXTS) {
                comparePair(first, next);
            }
        }
        allInARow();
        aHeadingIsGoneInATextOfAllOptions();
        CHECK.end();
    }

    private static void comparePair(String first, String next) {
        ShortTeller x = Check.of(first);
        answersOf(x);
        knowAll(x);
        answersOf(x);
        Check.take(x, next);
        CHECK.due("behind " + first + " the answers of " + next, answersOf(Check.of(next)), answersOf(x));
        // The latest sign of the text ahead and the first one of the next text are of one choice.
        Check.take(x, first);
        int all = (1 << x.count(0)) - 1;
        x.sign(0, 0);
        x.sign(all, 0);
        x.ranked(0);
        Check.take(x, next);
        all = (1 << x.count(0)) - 1;
        CHECK.due("behind " + first + " all of " + next, Check.read(Check.of(next), all), Check.read(x, all));
        CHECK.due("behind " + first + " ranked(0) of " + next, Check.of(next).ranked(0), x.ranked(0));
    }

    private static void allInARow() {
        ShortTeller x = new ShortTeller();
        for (int round = 0; round < 2; round++) {
            for (String text : TEXTS) {
                Check.take(x, text);
                CHECK.due("in a row: the answers of " + text, answersOf(Check.of(text)), answersOf(x));
            }
        }
    }

    private static void aHeadingIsGoneInATextOfAllOptions() {
        ShortTeller x = Check.of("=Head <1>. a <2>.");
        x.value(1);
        CHECK.due("options", 14, Check.take(x, "a.".repeat(13) + "b <1> <2>."));
        CHECK.due("value(1)", 0, x.value(1));
        CHECK.due("value of all but the last", 0, x.value((1 << 13) - 1));
        CHECK.due("value of the last", 2, x.value(1 << 13));
    }

    private static void knowAll(ShortTeller x) {
        for (int fact = 0; fact < 31; fact++) {
            x.knows(fact, true);
        }
    }

    private static String answersOf(ShortTeller x) {
        StringBuilder row = new StringBuilder();
        row.append(x.fault(0)).append(' ').append(x.fault(1)).append('\n');
        for (int what = 0; what < 8; what++) {
            row.append(x.count(what)).append(' ');
        }
        for (int fact = 0; fact < 31; fact++) {
            row.append(x.weight(fact)).append(' ');
        }
        int options = x.count(0);
        for (int option = 0; option <= options; option++) {
            for (int what = 0; what < 4; what++) {
                row.append(Check.option(x, option, what)).append(' ');
            }
        }
        for (int choice = 0; choice < 1 << options; choice++) {
            addChoice(row, x, choice, options);
        }
        for (int room = 0; room <= x.count(7); room++) {
            row.append(x.best(room)).append(' ');
        }
        for (int rank = 0; rank <= x.count(4); rank++) {
            row.append(x.ranked(rank)).append(' ');
        }
        for (int fact = 0; fact < 31; fact++) {
            row.append(x.least(1 << fact)).append(' ').append(x.least(2 | 1 << fact)).append(' ');
        }
        return row.toString();
    }

    private static void addChoice(StringBuilder row, ShortTeller x, int choice, int options) {
        row.append('\n').append(x.sound(choice)).append(' ').append(x.length(choice)).append(' ');
        row.append(x.value(choice)).append(' ').append(x.named(choice)).append(' ').append(Check.read(x, choice));
        for (int option = 0; option < options; option++) {
            row.append(' ').append(x.turned(choice, option));
        }
    }
}
