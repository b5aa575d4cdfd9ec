/** The edges that promises 12 to 15 name: one method for each of them. */
public final class RankEdgesTest {
    private static final int NONE = ShortTeller.NONE;
    private static final int LOWEST = Integer.MIN_VALUE;
    private static final int HIGHEST = Integer.MAX_VALUE;
    private static final Check CHECK = new Check("RankEdgesTest");

    public static void main(String[] args) {
        aRoomBelowZero();
        aRoomOfZero();
        aRoomJustEnoughAndOneTooSmall();
        theLargestRoom();
        bestOfOneValueTheLeastLength();
        bestOfOneLengthTheLeastNumber();
        bestWithNothingToTell();
        aRankBelowZero();
        theLastRankAndOneBehind();
        everyRankIsAnotherSoundChoice();
        ranksByValueLengthNumber();
        ranksOfTheNextText();
        theEmptySetOfFacts();
        factsThatNoChoiceTells();
        factsWithTheHighestBit();
        factsThatAreKnownAreToldAllTheSame();
        allFactsOfTheText();
        leastAmongSeveralThatTell();
        turnedAtNoSuchOption();
        turnedOfWhatIsNotSound();
        everyOptionCanBeTurned();
        turnedTakesWhatItNeeds();
        turnedLeavesWhatItHolds();
        turnedOfOneNearnessTheGreatestValue();
        turnedOfOneValueTheLeastLength();
        turnedOfOneLengthTheLeastNumber();
        theFewestChangesComeAheadOfValue();
        CHECK.end();
    }

    private static void best(ShortTeller x, int room, int want) {
        CHECK.due("best(" + room + ")", want, x.best(room));
    }

    private static void turned(ShortTeller x, int choice, int option, int want) {
        CHECK.due("turned(" + choice + ", " + option + ")", want, x.turned(choice, option));
    }

    private static void ranks(ShortTeller x, int... choices) {
        for (int rank = 0; rank < choices.length; rank++) {
            CHECK.due("ranked(" + rank + ")", choices[rank], x.ranked(rank));
        }
        CHECK.due("ranked(" + choices.length + ")", NONE, x.ranked(choices.length));
        CHECK.due("count(4)", choices.length, x.count(4));
    }

    private static void aRoomBelowZero() {
        ShortTeller[] tellers = {new ShortTeller(), Check.of("a <1>."), Check.of("a")};
        for (ShortTeller x : tellers) {
            best(x, -1, NONE);
            best(x, -2, NONE);
            best(x, LOWEST, NONE);
        }
    }

    private static void aRoomOfZero() {
        best(new ShortTeller(), 0, 0);
        best(Check.of("a <1>."), 0, 0);
        best(Check.of("a <1>"), 0, 0);
        best(Check.of("=H <1>."), 0, 0);
    }

    private static void aRoomJustEnoughAndOneTooSmall() {
        ShortTeller x = Check.of("=Head. aaa <1> (bb <2>). cc <3> <3>.");
        best(x, "Head: cc.".length() - 1, 0);
        best(x, "Head: cc.".length(), 0b100);
        best(x, "Head: aaa. cc.".length() - 1, 0b100);
        best(x, "Head: aaa. cc.".length(), 0b101);
        best(x, "Head: aaa bb. cc.".length() - 1, 0b101);
        best(x, "Head: aaa bb. cc.".length(), 0b111);
        ShortTeller names = Check.of("*Longname a. ~he <1>.");
        best(names, "Longname.".length() - 1, 0);
        best(names, "Longname.".length(), 0b10);
    }

    private static void theLargestRoom() {
        best(new ShortTeller(), HIGHEST, 0);
        best(Check.of("a <1>. b <2>. c."), HIGHEST, 0b011);
        best(Check.of("w <1>.".repeat(14)), HIGHEST, 1);
    }

    private static void bestOfOneValueTheLeastLength() {
        best(Check.of("aaa <1>. bb <1>. c <1>. dd <1>."), 50, 0b0100);
        best(Check.of("aaa <1>. c. d <1> (e)."), 50, 0b0100);
        best(Check.of("=Long. a <1>. =S. b <1>."), 50, 0b10);
    }

    private static void bestOfOneLengthTheLeastNumber() {
        best(Check.of("aa <1>. b <1>. c <1>. d <1>."), 50, 0b0010);
        best(Check.of("a {b <1>|c <1>}."), 50, 0b011);
        best(Check.of("*Al a. ~he <1> b. *Al <1> b."), 50, 0b010);
    }

    private static void bestWithNothingToTell() {
        best(Check.of("a. b."), 50, 0);
        ShortTeller x = Check.of("a <1>. b <2>.");
        x.knows(1, true);
        best(x, 50, 0b10);
        x.knows(2, true);
        best(x, 50, 0);
        x.knows(1, false);
        best(x, 50, 0b01);
        best(x, 1, 0);
    }

    private static void aRankBelowZero() {
        ShortTeller[] tellers = {new ShortTeller(), Check.of("a <1>. b."), Check.of("a")};
        for (ShortTeller x : tellers) {
            CHECK.due("ranked(-1)", NONE, x.ranked(-1));
            CHECK.due("ranked(LOWEST)", NONE, x.ranked(LOWEST));
        }
    }

    private static void theLastRankAndOneBehind() {
        ranks(new ShortTeller(), 0);
        ranks(Check.of("a"), 0);
        ranks(Check.of("=H <1>."), 0);
        ranks(Check.of("a."), 0, 1);
        ranks(Check.of("a <1>."), 1, 0);
        ShortTeller x = Check.of("a.".repeat(14));
        CHECK.due("ranked(16383)", 16383, x.ranked(16383));
        CHECK.due("ranked(16384)", NONE, x.ranked(16384));
        CHECK.due("ranked(HIGHEST)", NONE, x.ranked(HIGHEST));
    }

    private static void everyRankIsAnotherSoundChoice() {
        ShortTeller x = Check.of("=H <1>. a <2> (b <3>) {c|d <1>}. *Al <4> {e|f} (g). ~he <2>.");
        boolean[] seen = new boolean[1 << x.count(0)];
        int many = x.count(4);
        for (int rank = 0; rank < many; rank++) {
            int choice = x.ranked(rank);
            CHECK.due("sound of rank " + rank, 1, x.sound(choice));
            CHECK.due("rank " + rank + " again", false, seen[choice]);
            seen[choice] = true;
            CHECK.due("the order at " + rank, true, rank == 0 || isAhead(x, x.ranked(rank - 1), choice));
        }
        for (int choice = 0; choice < seen.length; choice++) {
            CHECK.due("is ranked " + choice, x.sound(choice) == 1, seen[choice]);
        }
    }

    private static boolean isAhead(ShortTeller x, int one, int other) {
        if (x.value(one) != x.value(other)) {
            return x.value(one) > x.value(other);
        }
        if (x.length(one) != x.length(other)) {
            return x.length(one) < x.length(other);
        }
        return one < other;
    }

    private static void ranksByValueLengthNumber() {
        // 1 and 2 have one value and one length; 4 has the value and another length.
        ranks(Check.of("a <1>. b <1>. cc <1>."), 1, 2, 4, 3, 5, 6, 7, 0);
        ranks(Check.of("aa <1>. b <2>."), 3, 2, 1, 0);
    }

    private static void ranksOfTheNextText() {
        ShortTeller x = Check.of("aa <1>. b <2>. c <3>.");
        CHECK.due("ranked(0)", 7, x.ranked(0));
        Check.take(x, "a <1>.");
        ranks(x, 1, 0);
        Check.take(x, "a <1>");
        ranks(x, 0);
        Check.take(x, "a. b <1>. c. d <2>.");
        CHECK.due("ranked(0) of more options", 0b1010, x.ranked(0));
        x.text(0);
        ranks(x, 0);
    }

    private static void theEmptySetOfFacts() {
        CHECK.due("least(0) of nothing", 0, new ShortTeller().least(0));
        CHECK.due("least(0)", 0, Check.of("a <0>. {b|c}.").least(0));
        CHECK.due("least(0) of a fault", 0, Check.of("a").least(0));
    }

    private static void factsThatNoChoiceTells() {
        CHECK.due("least(1) of nothing", NONE, new ShortTeller().least(1));
        ShortTeller x = Check.of("=G <5>. =H <1>. a <2>. =I <3>.");
        CHECK.due("least of 1", "H: a.".length(), x.least(1 << 1));
        CHECK.due("least of 2", "H: a.".length(), x.least(1 << 2));
        CHECK.due("least of the last heading's", NONE, x.least(1 << 3));
        CHECK.due("least of what the text has not", NONE, x.least(1 << 4));
        CHECK.due("least of the first heading's", NONE, x.least(1 << 5));
        CHECK.due("least of 1 and 3", NONE, x.least(1 << 1 | 1 << 3));
        CHECK.due("least of 1 and 4", NONE, x.least(1 << 1 | 1 << 4));
        CHECK.due("least among as many choices as can be", NONE, Check.of("a <1>.".repeat(14)).least(1 << 2));
    }

    private static void factsWithTheHighestBit() {
        ShortTeller x = Check.of("a <30>. b <0>.");
        CHECK.due("least(LOWEST)", NONE, x.least(LOWEST));
        CHECK.due("least(LOWEST | 1)", NONE, x.least(LOWEST | 1));
        CHECK.due("least(-1)", NONE, x.least(-1));
        CHECK.due("least of 30", 2, x.least(1 << 30));
        CHECK.due("least of 30 and 0", 5, x.least(1 << 30 | 1));
        CHECK.due("least(HIGHEST)", NONE, x.least(HIGHEST));
        CHECK.due("least(LOWEST) of nothing", NONE, new ShortTeller().least(LOWEST));
    }

    private static void factsThatAreKnownAreToldAllTheSame() {
        ShortTeller x = Check.of("a <1>. bb <2>.");
        x.knows(1, true);
        x.knows(2, true);
        CHECK.due("least of 1", 2, x.least(2));
        CHECK.due("least of 2", 3, x.least(4));
        CHECK.due("least of both", 6, x.least(6));
    }

    private static void allFactsOfTheText() {
        ShortTeller x = Check.of("=H <30>. a <0> <1> <2> <3> <4> <5> <6> <7> <8> <9> (b <10> <11> <12> <13> <14>"
                + " <15> <16> <17> <18> <19>). c <20> <21> <22> <23> <24> <25> <26> <27> <28> <29>.");
        CHECK.due("count(5)", HIGHEST, x.count(5));
        CHECK.due("least(HIGHEST)", "H: a b. c.".length(), x.least(HIGHEST));
        CHECK.due("best(9)", 0b011, x.best(9));
        CHECK.due("best(10)", 0b111, x.best(10));
    }

    private static void leastAmongSeveralThatTell() {
        ShortTeller x = Check.of("aaaa <1> <2>. b <1>. c <2>.");
        CHECK.due("least of 1", 2, x.least(2));
        CHECK.due("least of 2", 2, x.least(4));
        // One long sentence, or two short ones with a blank between: both have 5.
        CHECK.due("least of both", 5, x.least(6));
        CHECK.due("a name that is put makes it longer", "Longname b.".length(),
                Check.of("*Longname aaaaaaaaaaa. ~he b <1>.").least(2));
    }

    private static void turnedAtNoSuchOption() {
        ShortTeller x = Check.of("a (b). c.");
        int[] none = {3, 4, 13, 14, 31, 32, 33, 34, 64, -1, -2, -32, LOWEST, HIGHEST};
        for (int option : none) {
            turned(x, 0, option, NONE);
            turned(x, 0b111, option, NONE);
        }
        turned(new ShortTeller(), 0, 0, NONE);
        turned(Check.of("=H."), 0, 0, NONE);
        turned(Check.of("a"), 0, 0, NONE);
        turned(x, 0, 2, 0b100);
    }

    private static void turnedOfWhatIsNotSound() {
        ShortTeller x = Check.of("a (b). {c|d}.");
        int[] none = {0b00010, 0b00100, 0b01000, 0b11000, 0b100000, 1 << 14, -1, LOWEST, HIGHEST};
        for (int choice : none) {
            for (int option = 0; option < 5; option++) {
                turned(x, choice, option, NONE);
            }
        }
    }

    /** The empty choice and the one with all are sound, so that there always is one. */
    private static void everyOptionCanBeTurned() {
        ShortTeller x = Check.of("=H <1>. a <2> (b <3> {c|d}) {e|f (g)}.");
        int options = x.count(0);
        for (int choice = 0; choice < 1 << options; choice++) {
            for (int option = 0; option < options && x.sound(choice) == 1; option++) {
                int other = x.turned(choice, option);
                CHECK.due("sound of turned(" + choice + ", " + option + ")", 1, x.sound(other));
                CHECK.due("turned(" + choice + ", " + option + ") turns", 1, ((other ^ choice) >> option) & 1);
            }
        }
    }

    private static void turnedTakesWhatItNeeds() {
        ShortTeller x = Check.of("a (b (c (d (e)))) {f|g}.");
        //                        0  1  2  3  4     5 6
        turned(x, 0, 0, 0b0100001);
        turned(x, 0, 4, 0b0111111);
        turned(x, 0b1000001, 4, 0b1011111);
        turned(x, 0b1000011, 4, 0b1011111);
        turned(x, 0b1000011, 5, 0b1100011);
    }

    private static void turnedLeavesWhatItHolds() {
        ShortTeller x = Check.of("a (b (c (d (e)))) {f|g}.");
        turned(x, 0b1111111, 0, 0);
        turned(x, 0b1111111, 1, 0b1100001);
        turned(x, 0b1111111, 4, 0b1101111);
        turned(x, 0b1111111, 5, 0b1011111);
        // The last item: the other one comes, as all else would go with the sentence.
        turned(x, 0b0111111, 5, 0b1011111);
        // All fourteen options change.
        turned(Check.of("a" + "(b)".repeat(13) + "."), 16383, 0, 0);
        turned(Check.of("a(b(c(d(e)))(f)(g)(h)(i)(j)(k)(l)(m)(n))."), 16383, 0, 0);
    }

    private static void turnedOfOneNearnessTheGreatestValue() {
        turned(Check.of("a {bb <1>|c|dd <2> <2>}."), 0, 0, 0b1001);
        ShortTeller x = Check.of("a <3> {b <1>|c <2> <2>}.");
        turned(x, 0b011, 1, 0b101);
        x.knows(2, true);
        x.knows(3, true);
        turned(x, 0b011, 1, 0b000);
        x.knows(3, false);
        turned(x, 0b011, 1, 0b101);
    }

    private static void turnedOfOneValueTheLeastLength() {
        turned(Check.of("a {bbb <1>|cc <1>|d <1>}."), 0, 0, 0b1001);
        turned(Check.of("a {bbb|cc|d}."), 0, 0, 0b1001);
        turned(Check.of("a {b|c}."), 0b011, 1, 0);
    }

    private static void turnedOfOneLengthTheLeastNumber() {
        turned(Check.of("a {b|c|d}."), 0, 0, 0b0011);
        turned(Check.of("a {bb|c <1>|d <1>}."), 0, 0, 0b0101);
    }

    private static void theFewestChangesComeAheadOfValue() {
        ShortTeller x = Check.of("a. bbbb. c <1> <2> <3>.");
        turned(x, 0, 1, 0b010);
        turned(x, 0b111, 2, 0b011);
        turned(x, 0b001, 0, 0);
    }
}
