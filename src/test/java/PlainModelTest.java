import java.util.Random;

/** Many made-up texts, sound and faulty: every call against the plain model of the document. */
public final class PlainModelTest {
    private static final String SIGNS = "(){|}<>~*=. \na1";

    private final Check check = new Check("PlainModelTest");
    private final Random random = new Random(20261116);
    private final MadeUpTexts texts = new MadeUpTexts(random);

    public static void main(String[] args) {
        PlainModelTest test = new PlainModelTest();
        ShortTeller teller = new ShortTeller();
        for (int i = 0; i < 6000; i++) {
            // One object goes on for some texts, so that what is left of an earlier one would show.
            teller = i % 3 == 0 ? new ShortTeller() : teller;
            test.compare(teller, test.madeUpText(i));
        }
        test.check.end();
    }

    private String madeUpText(int i) {
        StringBuilder text = texts.next(1 + random.nextInt(i % 50 == 0 ? 14 : 9));
        if (random.nextInt(3) == 0) {
            spoil(text);
        }
        text.setLength(Math.min(text.length(), 800));
        return text.toString();
    }

    private void spoil(StringBuilder text) {
        int place = random.nextInt(text.length());
        char sign = random.nextInt(10) == 0 ? (char) random.nextInt(256) : SIGNS.charAt(random.nextInt(SIGNS.length()));
        switch (random.nextInt(4)) {
            case 0:
                text.setCharAt(place, sign);
                break;
            case 1:
                text.insert(place, sign);
                break;
            case 2:
                text.deleteCharAt(place);
                break;
            default:
                text.setLength(place);
        }
    }

    private void compare(ShortTeller teller, String text) {
        PlainTeller plain;
        int fault = 0;
        int place = -1;
        int options;
        try {
            plain = new PlainTeller(text);
            options = plain.options.size();
        } catch (PlainTeller.Fault e) {
            fault = e.kind;
            place = e.place;
            options = -1;
            plain = emptyTeller();
        }
        check.due("text of " + text, options, Check.take(teller, text));
        check.due("fault(0) of " + text, fault, teller.fault(0));
        check.due("fault(1) of " + text, place, teller.fault(1));
        compareCounts(teller, plain, text);
        for (int round = 0; round < 2; round++) {
            compareChoices(teller, plain, text);
            compareRanks(teller, plain, text);
            for (int fact = -1; fact < 33; fact++) {
                boolean is = random.nextInt(3) == 0;
                check.due("knows(" + fact + ") of " + text, plain.knows(fact, is), teller.knows(fact, is));
                check.due("weight(" + fact + ") of " + text, plain.weight(fact), teller.weight(fact));
            }
            check.due("count(6) of " + text, plain.known, teller.count(6));
        }
        compareRanks(teller, plain, text);
    }

    private static PlainTeller emptyTeller() {
        try {
            return new PlainTeller("");
        } catch (PlainTeller.Fault e) {
            throw new IllegalStateException(e);
        }
    }

    private void compareCounts(ShortTeller teller, PlainTeller plain, String text) {
        int options = plain.options.size();
        int sentences = 0;
        for (int option = 0; option < options; option++) {
            sentences += plain.options.get(option)[0] == 0 ? 1 : 0;
            for (int what = 0; what < 4; what++) {
                check.due("option(" + option + ", " + what + ") of " + text,
                        plain.options.get(option)[what], Check.option(teller, option, what));
            }
        }
        check.due("option past the last of " + text, Check.INDEX, Check.option(teller, options, 0));
        int[] want = {options, sentences, plain.headings, plain.words, plain.order().size(), plain.facts(), 0,
            plain.read(plain.all()).length(), -1};
        for (int what = 0; what < want.length; what++) {
            check.due("count(" + what + ") of " + text, want[what], teller.count(what));
        }
    }

    private void compareChoices(ShortTeller teller, PlainTeller plain, String text) {
        for (int i = 0; i < 12; i++) {
            boolean isRanked = i % 2 == 0;
            int choice = isRanked ? plain.ranked(random.nextInt(plain.order().size()))
                    : random.nextInt(plain.all() + 2);
            boolean isSound = plain.sound(choice) == 1;
            String of = "(" + choice + ") of " + text;
            check.due("sound" + of, plain.sound(choice), teller.sound(choice));
            check.due("length" + of, isSound ? plain.read(choice).length() : -1, teller.length(choice));
            check.due("value" + of, isSound ? plain.value(choice) : -1, teller.value(choice));
            check.due("named" + of, isSound ? plain.named(choice) : -1, teller.named(choice));
            check.due("read" + of, isSound ? plain.read(choice) : "", Check.read(teller, choice));
        }
    }

    private void compareRanks(ShortTeller teller, PlainTeller plain, String text) {
        int most = plain.read(plain.all()).length();
        for (int i = 0; i < 4; i++) {
            int room = random.nextInt(most + 2);
            int rank = random.nextInt(plain.order().size() + 1);
            int facts = plain.facts() & random.nextInt() & (i < 2 ? random.nextInt() : -1);
            int choice = plain.ranked(random.nextInt(plain.order().size()));
            int option = random.nextInt(plain.options.size() + 1);
            check.due("best(" + room + ") of " + text, plain.best(room), teller.best(room));
            check.due("ranked(" + rank + ") of " + text, plain.ranked(rank), teller.ranked(rank));
            check.due("least(" + facts + ") of " + text, plain.least(facts), teller.least(facts));
            check.due("turned(" + choice + ", " + option + ") of " + text,
                    plain.turned(choice, option), teller.turned(choice, option));
        }
    }
}
