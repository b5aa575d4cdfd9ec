/** Promises 12 to 15: best, ranked, least, turned. */
public final class RankTest {
    private static final int NONE = ShortTeller.NONE;
    private static final Check CHECK = new Check("RankTest");

    public static void main(String[] args) {
        theBestForARoom();
        theOrderOfAll();
        ordersChangeWithWhatIsKnown();
        theLeastRoomForFacts();
        oneOptionTurned();
        turnedTakesTheBetterOfTwo();
        nothingToTurn();
        fourteenSentences();
        CHECK.end();
    }

    private static void bests(ShortTeller x, int... roomsAndChoices) {
        for (int i = 0; i + 1 < roomsAndChoices.length; i += 2) {
            CHECK.due("best(" + roomsAndChoices[i] + ")", roomsAndChoices[i + 1], x.best(roomsAndChoices[i]));
        }
    }

    private static void ranks(ShortTeller x, int... choices) {
        for (int rank = 0; rank < choices.length; rank++) {
            CHECK.due("ranked(" + rank + ")", choices[rank], x.ranked(rank));
        }
        CHECK.due("ranked past the last", NONE, x.ranked(choices.length));
        CHECK.due("count(4)", choices.length, x.count(4));
    }

    private static void theBestForARoom() {
        // The sentences have 4, 3 and 2 signs; fact 1 weighs 3, and fact 2, which two of them tell, weighs 2.
        ShortTeller x = Check.of("aaa <1> <1> <1>. bb <2>. c <2>.");
        bests(x, -1, NONE, Integer.MIN_VALUE, NONE, 0, 0, 1, 0, 2, 4, 3, 4, 4, 1, 5, 1, 6, 1, 7, 5, 8, 5, 100, 5,
                Integer.MAX_VALUE, 5);
        ShortTeller same = Check.of("a. b <1>. c <1>. d <1>.");
        bests(same, 1, 0, 2, 2, 3, 2, 50, 2);
    }

    private static void theOrderOfAll() {
        ShortTeller x = Check.of("aa <1>. b <1> <2>. c.");
        // values: fact 1 weighs 2, fact 2 weighs 1; lengths: a 3, b 2, c 2, with a blank between
        ranks(x, 2, 6, 3, 7, 1, 5, 0, 4);
        CHECK.due("ranked(-1)", NONE, x.ranked(-1));
        CHECK.due("ranked(8)", NONE, x.ranked(8));
        CHECK.due("ranked far", NONE, x.ranked(Integer.MAX_VALUE));
        CHECK.due("ranked far below", NONE, x.ranked(Integer.MIN_VALUE));
        ShortTeller same = Check.of("a. b.");
        ranks(same, 0, 1, 2, 3);
        ShortTeller list = Check.of("x {a|b|c}.");
        ranks(list, 0, 3, 5, 9, 7, 11, 13, 15);
    }

    private static void ordersChangeWithWhatIsKnown() {
        ShortTeller x = Check.of("aa <1>. b <1> <2>. c.");
        CHECK.due("ranked(0) at first", 2, x.ranked(0));
        x.knows(1, true);
        ranks(x, 2, 6, 3, 7, 0, 4, 1, 5);
        x.knows(2, true);
        ranks(x, 0, 2, 4, 1, 6, 3, 5, 7);
        x.knows(1, false);
        ranks(x, 2, 1, 6, 3, 5, 7, 0, 4);
        bests(x, 1, 0, 2, 2, 3, 2);
        x.knows(2, false);
        ranks(x, 2, 6, 3, 7, 1, 5, 0, 4);
    }

    private static void theLeastRoomForFacts() {
        ShortTeller x = Check.of("=Head <0>. aaa <1>. b <2> (c <1>). =Tail <3>. d {e <4>|*Longname <5>}. ~he <6>.");
        CHECK.due("least(0)", 0, x.least(0));
        CHECK.due("least of 0", "Head: b.".length(), x.least(1));
        CHECK.due("least of 1", "Head: b c.".length(), x.least(2));
        CHECK.due("least of 1, 2", "Head: b c.".length(), x.least(6));
        CHECK.due("least of 3", "Tail: d e.".length(), x.least(8));
        CHECK.due("least of 4", "Tail: d e.".length(), x.least(16));
        CHECK.due("least of 4, 5", "Tail: d e and Longname.".length(), x.least(48));
        CHECK.due("least of 6", "Tail: Longname.".length(), x.least(64));
        CHECK.due("least of 5, 6", "Tail: d Longname. he.".length(), x.least(96));
        CHECK.due("least of all", "Head: b c. Tail: d e and Longname. he.".length(), x.least(127));
        CHECK.due("least of 7", NONE, x.least(128));
        CHECK.due("least of 0, 7", NONE, x.least(129));
        CHECK.due("least(-1)", NONE, x.least(-1));
        CHECK.due("least of bit 31", NONE, x.least(Integer.MIN_VALUE));
        x.knows(1, true);
        CHECK.due("least of 1 if it is known", "Head: b c.".length(), x.least(2));
    }

    private static void turns(ShortTeller x, int choice, int option, int want) {
        CHECK.due("turned(" + choice + ", " + option + ")", want, x.turned(choice, option));
    }

    private static void oneOptionTurned() {
        ShortTeller x = Check.of("a (b (c)). d {e|f}.");
        //                        0  1  2    3  4 5
        turns(x, 0b000000, 0, 0b000001);
        turns(x, 0b000000, 1, 0b000011);
        turns(x, 0b000000, 2, 0b000111);
        turns(x, 0b000000, 3, 0b011000);
        turns(x, 0b000000, 5, 0b101000);
        turns(x, 0b000111, 0, 0b000000);
        turns(x, 0b000111, 1, 0b000001);
        turns(x, 0b000111, 2, 0b000011);
        turns(x, 0b111000, 4, 0b101000);
        turns(x, 0b011000, 4, 0b000000);
        turns(x, 0b111111, 3, 0b000111);
    }

    private static void turnedTakesTheBetterOfTwo() {
        // To put b's sentence in, one item must come: the one of more value, then the shorter one, then the first.
        turns(Check.of("a {bb <1>|c <2>|d <2> <1>}."), 0, 0, 0b1001);
        turns(Check.of("a {bb|c|d}."), 0, 0, 0b0101);
        turns(Check.of("a {b|c|d}."), 0, 0, 0b0011);
        // To leave the only item out, the sentence goes or another item comes: both change one other option.
        // The empty choice is the shorter one, so the other item comes only if there is value in it.
        turns(Check.of("a {b|c}."), 0b011, 1, 0b000);
        turns(Check.of("a <1> {b|c}."), 0b011, 1, 0b101);
        ShortTeller x = Check.of("a {bb <1>|c <2>}.");
        turns(x, 0, 0, 0b101);
        x.knows(2, true);
        turns(x, 0, 0, 0b011);
        x.knows(1, true);
        turns(x, 0, 0, 0b101);
    }

    private static void nothingToTurn() {
        ShortTeller x = Check.of("a (b).");
        turns(x, 0b10, 0, NONE);
        turns(x, 0b100, 0, NONE);
        turns(x, -1, 0, NONE);
        turns(x, 0, 2, NONE);
        turns(x, 0, -1, NONE);
        turns(x, 0, 32, NONE);
        turns(x, 0, Integer.MAX_VALUE, NONE);
        turns(x, 0, Integer.MIN_VALUE, NONE);
        turns(x, 0, 1, 0b11);
    }

    private static void fourteenSentences() {
        StringBuilder text = new StringBuilder();
        for (int i = 0; i < 14; i++) {
            text.append("w <").append(i).append(">.");
        }
        ShortTeller x = Check.of(text.toString());
        CHECK.due("count(4)", 1 << 14, x.count(4));
        CHECK.due("ranked(0)", (1 << 14) - 1, x.ranked(0));
        CHECK.due("ranked(last)", 0, x.ranked((1 << 14) - 1));
        CHECK.due("best(3 * 7 - 1)", (1 << 7) - 1, x.best(3 * 7 - 1));
        CHECK.due("best(3 * 7 - 2)", (1 << 6) - 1, x.best(3 * 7 - 2));
        CHECK.due("least of the odd ones", 3 * 7 - 1, x.least(0x2aaa));
        turns(x, 0x1555, 3, 0x155d);
        turns(x, 0x1555, 4, 0x1545);
    }
}
