import java.util.Random;

/** Texts by the document's grammar; some few have a fault: too much, or a leaning word without a name. */
final class MadeUpTexts {
    private static final String[] WORDS = {"a", "be", "sang", "1", "it's", "quite-long-one", "x,y;z"};
    private static final String[] NAMES = {"Al", "Bo", "Al", "Cynthia", "al"};
    private static final String[] LEANERS = {"he", "she", "they-all", "Al"};

    private final Random random;
    private int optionsLeft;
    private boolean hasName;

    MadeUpTexts(Random itsRandom) {
        random = itsRandom;
    }

    StringBuilder next(int options) {
        optionsLeft = options;
        hasName = false;
        StringBuilder text = new StringBuilder();
        while (optionsLeft > 0 && text.length() < 700) {
            addSentence(text);
        }
        return text;
    }

    private void addBlank(StringBuilder text) {
        text.append(random.nextInt(4) == 0 ? "\n " : " ");
    }

    private void addSentence(StringBuilder text) {
        if (random.nextInt(3) == 0) {
            text.append('=');
            for (int i = random.nextInt(3); i >= 0; i--) {
                addPlain(text, false);
            }
        } else {
            optionsLeft--;
            addParts(text, 0);
        }
        text.append('.');
        addBlank(text);
    }

    private void addParts(StringBuilder text, int depth) {
        int wordAt = random.nextInt(3);
        for (int i = 0; i < 3; i++) {
            int kind = random.nextInt(8);
            if (i == wordAt) {
                addPlain(text, true);
            } else if (kind == 0 && optionsLeft > 0 && depth < 4) {
                optionsLeft--;
                text.append('(');
                addParts(text, depth + 1);
                text.append(')');
            } else if (kind <= 2 && optionsLeft > 2 && depth < 4) {
                addList(text, depth);
            } else if (kind == 3) {
                addFact(text);
            } else if (kind <= 5) {
                addPlain(text, true);
            }
        }
    }

    private void addList(StringBuilder text, int depth) {
        int items = 2 + random.nextInt(Math.min(3, optionsLeft - 1));
        optionsLeft -= items;
        for (int i = 0; i < items; i++) {
            text.append(i == 0 ? "{" : "|");
            addParts(text, depth + 1);
        }
        text.append('}');
    }

    private void addFact(StringBuilder text) {
        text.append('<').append(random.nextInt(4) == 0 ? random.nextInt(32) : random.nextInt(4)).append('>');
    }

    private void addPlain(StringBuilder text, boolean mayLean) {
        addBlank(text);
        int kind = random.nextInt(6);
        if (kind == 0) {
            hasName = true;
            text.append('*').append(NAMES[random.nextInt(NAMES.length)]);
        } else if (kind <= 2 && mayLean && (hasName || random.nextInt(60) == 0)) {
            text.append('~').append(LEANERS[random.nextInt(LEANERS.length)]);
        } else {
            text.append(WORDS[random.nextInt(WORDS.length)]);
        }
        addBlank(text);
        if (random.nextInt(4) == 0) {
            addFact(text);
        }
    }
}
