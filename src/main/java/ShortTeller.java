import java.util.NoSuchElementException;

/**
 * A maker of short texts that never invents a word: of a marked text it tells every choice of what stays,
 * how such a choice is read, and which choices are the best ones for a room, for told facts, or near another one.
 */
public final class ShortTeller {
    public static final int NONE = -1;

    private static final int NOT_SO_MANY = -2;
    private static final int TAPE_ROOM = 800;
    private static final int FED_BYTES = 20;

    private static final int MOST_OPTIONS = 14;
    private static final int MOST_DEPTH = 4;
    private static final int MOST_WORDS = 40;
    private static final int MOST_SIGNS = 20;
    private static final int FACTS = 31;

    /** The kinds of pieces; the first three are those that option() tells. */
    private static final int SENTENCE = 0;
    private static final int ASIDE = 1;
    private static final int ITEM = 2;
    private static final int HEADING = 3;

    /** The kinds of marks along a text. */
    private static final int PLAIN_WORD = 0;
    private static final int NAME = 1;
    private static final int LEANING = 2;
    private static final int ITEM_BEGINS = 3;
    private static final int SENTENCE_ENDS = 4;

    private static final int CANNOT_STAND = 1;
    private static final int TOO_MUCH = 2;
    private static final int NO_NAME_AHEAD = 3;
    private static final int NO_WORD = 4;

    private final int[] tape = new int[TAPE_ROOM];
    private int taped = 0;
    private final Story story = new Story();
    private final Facts facts = new Facts();
    private final Scanner scanner = new Scanner(story, facts);
    private final Meter meter = new Meter(story);
    private final Reading reading = new Reading(story);
    private final Ranks ranks = new Ranks(story, meter, facts);

    public ShortTeller() {
    }

    /** Twenty bytes come behind the tape: how many it has; NONE if they have no room. */
    public int feed(int a, int b, int c, int d, int e) {
        if (taped + FED_BYTES > TAPE_ROOM) {
            return NONE;
        }
        putOnTape(a);
        putOnTape(b);
        putOnTape(c);
        putOnTape(d);
        putOnTape(e);
        return taped;
    }

    private void putOnTape(int number) {
        for (int shift = 24; shift >= 0; shift -= 8) {
            if (taped < tape.length) {
                tape[taped] = (number >>> shift) & 255;
                taped++;
            }
        }
    }

    /** The tape's first n bytes are the text: how many options; NONE with a fault; -2 if there are not so many. */
    public int text(int n) {
        if (n < 0 || n > taped) {
            return NOT_SO_MANY;
        }
        story.take(tape, n);
        taped = 0;
        facts.clear();
        scanner.scan();
        if (scanner.fault != 0) {
            // A text with a fault is none: what is left is the empty one.
            story.clear();
            facts.clear();
        }
        meter.gatherLeanings();
        reading.forget();
        ranks.forget();
        return scanner.fault != 0 ? NONE : story.options;
    }

    /** Of the latest text: 0 its fault, 1 the fault's place; NONE for another what. */
    public int fault(int what) {
        switch (what) {
            case 0:
                return scanner.fault;
            case 1:
                return scanner.place;
            default:
                return NONE;
        }
    }

    /** Of an option: 0 its kind, 1 the option around it, 2 its words, 3 the facts it tells itself. */
    public int option(int option, int what) throws IndexOutOfBoundsException, NoSuchElementException {
        if (option < 0 || option >= story.options) {
            throw new IndexOutOfBoundsException("no such option");
        }
        Piece piece = story.pieces[option];
        switch (what) {
            case 0:
                return piece.kind;
            case 1:
                return piece.within;
            case 2:
                return piece.words;
            case 3:
                return piece.facts;
            default:
                throw new NoSuchElementException("no such what");
        }
    }

    /** The reader knows a fact, or not any more: whether the text has it. */
    public boolean knows(int fact, boolean is) {
        if (!facts.has(fact)) {
            return false;
        }
        if (facts.isKnown(fact) != is) {
            facts.turn(fact);
            ranks.weighAgain(fact, is ? -facts.places[fact] : facts.places[fact]);
        }
        return true;
    }

    /** In how many places the text has a fact, 0 if it is known; NONE if the text has it not. */
    public int weight(int fact) {
        return facts.has(fact) ? facts.weightOf(fact) : NONE;
    }

    /** Whether a choice is sound (1, 0); NONE if it has bits of options that there are not. */
    public int sound(int choice) {
        if (!story.hasAllOf(choice)) {
            return NONE;
        }
        return story.isSound(choice) ? 1 : 0;
    }

    /** The signs of a sound choice; NONE of others. */
    public int length(int choice) {
        return story.isSound(choice) ? meter.signsOf(choice) : NONE;
    }

    /** The weights of what a sound choice tells; NONE of others. */
    public int value(int choice) {
        return story.isSound(choice) ? facts.weightOfAll(story.toldIn(choice)) : NONE;
    }

    /** Sign k of a sound choice as it is read; NONE of others, or if there is none such. */
    public int sign(int choice, int k) {
        if (!story.isSound(choice)) {
            return NONE;
        }
        if (!reading.holds(choice)) {
            reading.write(choice, meter.signsOf(choice));
        }
        return reading.signAt(k);
    }

    /** The best choice for a room; NONE for one below 0. */
    public int best(int room) {
        return room < 0 ? NONE : ranks.bestFor(room);
    }

    /** The choice of a rank; NONE if there is none such. */
    public int ranked(int rank) {
        return ranks.choiceAt(rank);
    }

    /** The fewest signs of sound choices that tell all facts of a set; NONE if there is none. */
    public int least(int facts) {
        return ranks.leastFor(facts);
    }

    /** The nearest sound choice in which an option is the other way; NONE if there is none. */
    public int turned(int choice, int option) {
        if (!story.isSound(choice) || option < 0 || option >= story.options) {
            return NONE;
        }
        return ranks.nearest(choice, option);
    }

    /** How many names are put for leaning words in a sound choice; NONE of others. */
    public int named(int choice) {
        return story.isSound(choice) ? meter.namesPutIn(choice) : NONE;
    }

    /** What there is of the text, by number; NONE for another what. */
    public int count(int what) {
        switch (what) {
            case 0:
                return story.options;
            case 1:
                return story.sentences;
            case 2:
                return story.headings;
            case 3:
                return story.words;
            case 4:
                return ranks.howMany();
            case 5:
                return facts.inText;
            case 6:
                return facts.known;
            case 7:
                return meter.signsOf((1 << story.options) - 1);
            default:
                return NONE;
        }
    }

    /** An option or a heading. */
    private static final class Piece {
        int kind = SENTENCE;
        int within = NONE;
        int list = NONE;
        int words = 0;
        int facts = 0;
        /** It stays in a sound choice that has one of these bits. */
        int keep = 0;
        /** What it adds itself to what is read: each word with the blank or the end behind it. */
        int signs = 0;

        void begin(int itsKind, int around, int itsKeep) {
            kind = itsKind;
            within = around;
            list = NONE;
            words = 0;
            facts = 0;
            keep = itsKeep;
            signs = 0;
        }

        boolean staysIn(int choice) {
            return (choice & keep) != 0;
        }
    }

    /** What matters for reading, in the order of the text: words, beginnings of items, ends of sentences. */
    private static final class Marks {
        // Between two words stands another sign, so there are at most half as many as bytes.
        static final int ROOM = TAPE_ROOM / 2 + 4 * MOST_OPTIONS;

        private final int[] kind = new int[ROOM];
        private final int[] piece = new int[ROOM];
        private final int[] at = new int[ROOM];
        private final int[] size = new int[ROOM];
        private final int[] name = new int[ROOM];
        int used = 0;

        void add(int itsKind, int itsPiece, int itsPlace, int itsSize, int itsName) {
            if (used >= ROOM) {
                return;
            }
            kind[used] = itsKind;
            piece[used] = itsPiece;
            at[used] = itsPlace;
            size[used] = itsSize;
            name[used] = itsName;
            used++;
        }

        private boolean isMark(int mark) {
            return mark >= 0 && mark < used;
        }

        int kindOf(int mark) {
            return isMark(mark) ? kind[mark] : NONE;
        }

        int pieceOf(int mark) {
            return isMark(mark) ? piece[mark] : NONE;
        }

        int placeOf(int mark) {
            return isMark(mark) ? at[mark] : NONE;
        }

        int sizeOf(int mark) {
            return isMark(mark) ? size[mark] : 0;
        }

        int nameOf(int mark) {
            return isMark(mark) ? name[mark] : NONE;
        }
    }

    /** The facts that the text has, where, and which of them the reader knows. */
    private static final class Facts {
        final int[] places = new int[FACTS];
        int inText = 0;
        int known = 0;

        void clear() {
            for (int fact = 0; fact < FACTS; fact++) {
                places[fact] = 0;
            }
            inText = 0;
            known = 0;
        }

        void addPlace(int fact) {
            if (fact >= 0 && fact < FACTS) {
                places[fact]++;
                inText |= 1 << fact;
            }
        }

        boolean has(int fact) {
            return fact >= 0 && fact < FACTS && places[fact] > 0;
        }

        boolean isKnown(int fact) {
            return (known & (1 << fact)) != 0;
        }

        void turn(int fact) {
            known ^= 1 << fact;
        }

        int weightOf(int fact) {
            return has(fact) && !isKnown(fact) ? places[fact] : 0;
        }

        int weightOfAll(int told) {
            int sum = 0;
            for (int fact = 0; fact < FACTS; fact++) {
                if ((told & (1 << fact)) != 0) {
                    sum += weightOf(fact);
                }
            }
            return sum;
        }
    }

    /** A text without faults, taken apart. */
    private static final class Story {
        // A heading is held only while a sentence stands behind it, and the latest one.
        static final int MOST_HEADINGS = MOST_OPTIONS + 1;
        static final int MOST_LISTS = MOST_OPTIONS + 1;
        static final int MOST_NAMES = TAPE_ROOM / 2;

        final int[] signs = new int[TAPE_ROOM];
        int size = 0;
        final Piece[] pieces = new Piece[MOST_OPTIONS + MOST_HEADINGS];
        int options = 0;
        /** The pieces in use: options from 0 on, headings from MOST_OPTIONS on. */
        int headingsEnd = MOST_OPTIONS;
        int headingMarks = 0;
        int sentences = 0;
        int headings = 0;
        int words = 0;
        final int[] listItems = new int[MOST_LISTS];
        final int[] listWithin = new int[MOST_LISTS];
        int lists = 0;
        final Marks marks = new Marks();
        final int[] nameAt = new int[MOST_NAMES];
        final int[] nameSize = new int[MOST_NAMES];
        int names = 0;

        Story() {
            for (int i = 0; i < pieces.length; i++) {
                pieces[i] = new Piece();
            }
        }

        void clear() {
            size = 0;
            options = 0;
            headingsEnd = MOST_OPTIONS;
            headingMarks = 0;
            sentences = 0;
            headings = 0;
            words = 0;
            lists = 0;
            marks.used = 0;
            names = 0;
        }

        void take(int[] bytes, int many) {
            clear();
            for (int i = 0; i < many && i < signs.length && i < bytes.length; i++) {
                signs[i] = bytes[i];
                size++;
            }
        }

        int signAt(int place) {
            return place >= 0 && place < size ? signs[place] : NONE;
        }

        /** The number of a new option, NONE if there are too many. */
        int openOption(int kind, int within) {
            if (options >= MOST_OPTIONS) {
                return NONE;
            }
            pieces[options].begin(kind, within, 1 << options);
            options++;
            return options - 1;
        }

        int openSentence() {
            int option = openOption(SENTENCE, NONE);
            if (option != NONE) {
                sentences++;
                if (headingsEnd > MOST_OPTIONS) {
                    pieces[headingsEnd - 1].keep |= 1 << option;
                }
            }
            return option;
        }

        int openHeading() {
            headings++;
            if (headingsEnd > MOST_OPTIONS && pieces[headingsEnd - 1].keep == 0) {
                // No sentence stands behind the heading ahead: it never stays, so this one takes its place.
                marks.used = headingMarks;
            } else if (headingsEnd < pieces.length) {
                headingsEnd++;
            }
            headingMarks = marks.used;
            pieces[headingsEnd - 1].begin(HEADING, NONE, 0);
            return headingsEnd - 1;
        }

        /** The number of a new list, NONE if there are too many. */
        int openList(int within) {
            if (lists >= MOST_LISTS) {
                return NONE;
            }
            listItems[lists] = 0;
            listWithin[lists] = within;
            lists++;
            return lists - 1;
        }

        /** The number of a new item, NONE if there are too many. */
        int openItem(int list) {
            int option = list >= 0 && list < lists ? openOption(ITEM, listWithin[list]) : NONE;
            if (option >= 0) {
                pieces[option].list = list;
                listItems[list] |= 1 << option;
                marks.add(ITEM_BEGINS, option, NONE, 0, NONE);
            }
            return option;
        }

        /** The number of the first name that is the same word. */
        int nameOf(int at, int length) {
            for (int name = 0; name < names; name++) {
                if (nameSize[name] == length && areSame(nameAt[name], at, length)) {
                    return name;
                }
            }
            if (names < MOST_NAMES) {
                nameAt[names] = at;
                nameSize[names] = length;
                names++;
            }
            return names - 1;
        }

        private boolean areSame(int one, int other, int length) {
            for (int i = 0; i < length && one + i < size && other + i < size; i++) {
                if (signs[one + i] != signs[other + i]) {
                    return false;
                }
            }
            return true;
        }

        private boolean isPiece(int number) {
            return number >= 0 && number < pieces.length;
        }

        void addFact(int piece, int fact) {
            if (isPiece(piece)) {
                pieces[piece].facts |= 1 << fact;
            }
        }

        void addWord(int piece) {
            if (isPiece(piece)) {
                pieces[piece].words++;
            }
        }

        void addSigns(int piece, int many) {
            if (isPiece(piece)) {
                pieces[piece].signs += many;
            }
        }

        int keepOf(int piece) {
            return isPiece(piece) ? pieces[piece].keep : 0;
        }

        int itemsBeside(int item) {
            int list = isPiece(item) ? pieces[item].list : NONE;
            return list >= 0 && list < lists ? listItems[list] : 0;
        }

        int sizeOfName(int name) {
            return name >= 0 && name < names ? nameSize[name] : 0;
        }

        int placeOfName(int name) {
            return name >= 0 && name < names ? nameAt[name] : NONE;
        }

        boolean hasAllOf(int choice) {
            return (choice >>> options) == 0;
        }

        boolean isSound(int choice) {
            if (!hasAllOf(choice)) {
                return false;
            }
            for (int option = 0; option < options; option++) {
                if (pieces[option].staysIn(choice) && !holdsOrNone(choice, pieces[option].within)) {
                    return false;
                }
            }
            for (int list = 0; list < lists; list++) {
                if (holdsOrNone(choice, listWithin[list]) && (choice & listItems[list]) == 0) {
                    return false;
                }
            }
            return true;
        }

        static boolean holdsOrNone(int choice, int option) {
            return option == NONE || (choice & (1 << option)) != 0;
        }

        /** The facts that are told in a sound choice. */
        int toldIn(int choice) {
            int told = toldByHeadingsIn(choice);
            for (int option = 0; option < options; option++) {
                if (pieces[option].staysIn(choice)) {
                    told |= pieces[option].facts;
                }
            }
            return told;
        }

        int toldByHeadingsIn(int choice) {
            int told = 0;
            for (int heading = MOST_OPTIONS; heading < headingsEnd; heading++) {
                if (pieces[heading].staysIn(choice)) {
                    told |= pieces[heading].facts;
                }
            }
            return told;
        }
    }

    /** A sentence, an aside or a list that is open while a text is scanned. */
    private static final class Frame {
        int kind = SENTENCE;
        int piece = NONE;
        int start = 0;
        int list = NONE;
        int items = 0;
        /** Whether its first part has begun (of a list: the first part of the item). */
        boolean begun = false;
        boolean worded = false;

        void begin(int itsKind, int itsPiece, int place) {
            kind = itsKind;
            piece = itsPiece;
            start = place;
            list = NONE;
            items = 0;
            begun = false;
            worded = false;
        }
    }

    /** Takes a text apart, sign by sign, up to its first fault. */
    private static final class Scanner {
        private static final int OUTSIDE = -1;

        private final Story story;
        private final Facts facts;
        private final Frame[] frames = new Frame[MOST_DEPTH + 1];
        int fault = 0;
        int place = NONE;
        private int at = 0;
        /** How many ( and { are open in the sentence. */
        private int level = OUTSIDE;
        /** What is open innermost, where something is. */
        private Frame top;
        private int sentenceWords = 0;
        private int latestName = NONE;

        Scanner(Story itsStory, Facts itsFacts) {
            story = itsStory;
            facts = itsFacts;
            for (int i = 0; i < frames.length; i++) {
                frames[i] = new Frame();
            }
            top = frames[0];
        }

        void scan() {
            fault = 0;
            place = NONE;
            at = 0;
            level = OUTSIDE;
            sentenceWords = 0;
            latestName = NONE;
            for (int steps = 0; steps <= TAPE_ROOM && at < story.size && fault == 0; steps++) {
                step(story.signAt(at));
            }
            if (fault == 0 && level != OUTSIDE) {
                fail(CANNOT_STAND, story.size);
            }
        }

        private void fail(int itsFault, int itsPlace) {
            fault = itsFault;
            place = itsPlace;
        }

        private void step(int sign) {
            if (sign == 10 || sign == 32) {
                at++;
            } else if (!mayStand(sign)) {
                fail(CANNOT_STAND, at);
            } else if (sign == '=') {
                openHeading();
            } else if (!mayBeginPart(sign)) {
                close(sign);
            } else if (beginPart()) {
                takePart(sign);
            }
        }

        private boolean mayStand(int sign) {
            if (level == OUTSIDE) {
                return sign == '=' || mayBeginPart(sign);
            }
            if (mayBeginPart(sign)) {
                return top.kind != HEADING || (sign != '(' && sign != '{' && sign != '~');
            }
            return top.begun && mayEnd(top, sign);
        }

        private static boolean mayEnd(Frame frame, int sign) {
            switch (frame.kind) {
                case ASIDE:
                    return sign == ')';
                case ITEM:
                    return sign == '|' || (sign == '}' && frame.items > 1);
                default:
                    return sign == '.';
            }
        }

        private static boolean mayBeginPart(int sign) {
            return sign == '(' || sign == '{' || sign == '<' || sign == '*' || sign == '~' || isOfWord(sign);
        }

        private static boolean isOfWord(int sign) {
            switch (sign) {
                case '(':
                case ')':
                case '{':
                case '|':
                case '}':
                case '<':
                case '>':
                case '~':
                case '*':
                case '=':
                case '.':
                    return false;
                default:
                    return sign >= 33 && sign <= 126;
            }
        }

        /** Opens what begins here within what is open. */
        private void open(int kind, int piece) {
            if (level + 1 < frames.length) {
                level++;
                top = frames[level];
                top.begin(kind, piece, at);
            }
        }

        private void openHeading() {
            sentenceWords = 0;
            open(HEADING, story.openHeading());
            at++;
        }

        /** Opens the sentence or the item whose first sign stands here. */
        private boolean beginPart() {
            if (level == OUTSIDE && !openSentence()) {
                return false;
            }
            if (top.begun) {
                return true;
            }
            top.begun = true;
            return top.kind != ITEM || openItem();
        }

        private boolean openSentence() {
            int option = story.openSentence();
            if (option == NONE) {
                fail(TOO_MUCH, at);
                return false;
            }
            sentenceWords = 0;
            open(SENTENCE, option);
            return true;
        }

        private boolean openItem() {
            top.piece = story.openItem(top.list);
            if (top.piece == NONE) {
                fail(TOO_MUCH, at);
                return false;
            }
            top.start = at;
            top.items++;
            return true;
        }

        private void takePart(int sign) {
            switch (sign) {
                case '(':
                    openAside();
                    break;
                case '{':
                    openList();
                    break;
                case '<':
                    takeFact();
                    break;
                case '*':
                    takeWord(NAME, at + 1);
                    break;
                case '~':
                    if (latestName == NONE) {
                        fail(NO_NAME_AHEAD, at);
                    } else {
                        takeWord(LEANING, at + 1);
                    }
                    break;
                default:
                    takeWord(PLAIN_WORD, at);
            }
        }

        private void openAside() {
            int option = level < MOST_DEPTH ? story.openOption(ASIDE, top.piece) : NONE;
            if (option == NONE) {
                fail(TOO_MUCH, at);
                return;
            }
            open(ASIDE, option);
            at++;
        }

        private void openList() {
            int list = level < MOST_DEPTH ? story.openList(top.piece) : NONE;
            if (list == NONE) {
                fail(TOO_MUCH, at);
                return;
            }
            open(ITEM, NONE);
            top.list = list;
            at++;
        }

        private void takeFact() {
            int from = at + 1;
            int end = from;
            int number = 0;
            while (end < story.size && isDigit(story.signAt(end))) {
                number = Math.min(number * 10 + story.signAt(end) - '0', FACTS);
                end++;
            }
            if (end == from) {
                fail(CANNOT_STAND, from);
            } else if (number >= FACTS) {
                fail(TOO_MUCH, from);
            } else if (story.signAt(end) != '>') {
                fail(CANNOT_STAND, end);
            } else {
                facts.addPlace(number);
                story.addFact(top.piece, number);
                at = end + 1;
            }
        }

        private static boolean isDigit(int sign) {
            return sign >= '0' && sign <= '9';
        }

        private void takeWord(int kind, int from) {
            int end = from;
            while (end < story.size && isOfWord(story.signAt(end))) {
                end++;
            }
            if (end == from) {
                fail(CANNOT_STAND, from);
            } else if (end - from > MOST_SIGNS || sentenceWords >= MOST_WORDS) {
                fail(TOO_MUCH, from);
            } else {
                keepWord(kind, from, end - from);
                at = end;
            }
        }

        private void keepWord(int kind, int from, int length) {
            sentenceWords++;
            story.words++;
            for (int around = 0; around <= level && around < frames.length; around++) {
                story.addWord(frames[around].piece);
            }
            top.worded = true;
            story.addSigns(top.piece, length + 1);
            if (kind == NAME) {
                latestName = story.nameOf(from, length);
            }
            story.marks.add(kind, top.piece, from, length, kind == PLAIN_WORD ? NONE : latestName);
        }

        /** Ends a sentence, an aside or an item. */
        private void close(int sign) {
            if (!top.worded) {
                fail(NO_WORD, top.start);
                return;
            }
            at++;
            switch (sign) {
                case '|':
                    top.begun = false;
                    top.worded = false;
                    break;
                case '.':
                    // One sign more: the blank between two sentences.
                    story.addSigns(top.piece, 1);
                    story.marks.add(SENTENCE_ENDS, top.piece, NONE, 0, NONE);
                    level = OUTSIDE;
                    break;
                default:
                    leave(sign == '}');
            }
        }

        /** Behind an aside or a list goes on what is around it; each item of a list has a word. */
        private void leave(boolean isList) {
            if (level > 0 && level < frames.length) {
                level--;
                top = frames[level];
                top.worded = top.worded || isList;
            }
        }
    }

    /** Tells how long a sound choice is without writing it. */
    private static final class Meter {
        private final Story story;
        /** The words by which it changes who is meant, as few as tell the same. */
        private final int[] keep = new int[Marks.ROOM];
        private final int[] name = new int[Marks.ROOM];
        private final int[] gain = new int[Marks.ROOM];
        private final boolean[] leans = new boolean[Marks.ROOM];
        private int used = 0;

        Meter(Story itsStory) {
            story = itsStory;
        }

        void gatherLeanings() {
            used = 0;
            int pieceAhead = NONE;
            for (int mark = 0; mark < story.marks.used; mark++) {
                int kind = story.marks.kindOf(mark);
                if (kind == NAME || kind == LEANING) {
                    gather(mark, kind == LEANING, story.marks.pieceOf(mark) == pieceAhead);
                    pieceAhead = story.marks.pieceOf(mark);
                }
            }
        }

        /**
         * Two such words in one piece stay together. The second one, if it leans, always has its name ahead;
         * and if both are names, nothing leans on the first one.
         */
        private void gather(int mark, boolean itLeans, boolean samePieceAsAhead) {
            if (samePieceAsAhead && itLeans) {
                return;
            }
            if (samePieceAsAhead && used > 0 && !leans[used - 1]) {
                used--;
            }
            if (used >= keep.length) {
                return;
            }
            int itsName = story.marks.nameOf(mark);
            keep[used] = story.keepOf(story.marks.pieceOf(mark));
            name[used] = itsName;
            gain[used] = story.sizeOfName(itsName) - story.marks.sizeOf(mark);
            leans[used] = itLeans;
            used++;
        }

        int namesPutIn(int choice) {
            return sumOfNamesPut(choice, false);
        }

        /** Of the names put for leaning words: the signs that they have more, or how many they are. */
        private int sumOfNamesPut(int choice, boolean ofSigns) {
            int sum = 0;
            int latest = NONE;
            for (int i = 0; i < used; i++) {
                if ((choice & keep[i]) != 0) {
                    if (leans[i] && name[i] != latest) {
                        sum += ofSigns ? gain[i] : 1;
                    }
                    latest = name[i];
                }
            }
            return sum;
        }

        int signsOf(int choice) {
            int signs = signsBesideOptions(choice);
            for (int option = 0; option < story.options; option++) {
                if (story.pieces[option].staysIn(choice)) {
                    signs += story.pieces[option].signs;
                }
            }
            return signs;
        }

        /** What comes to the options' own signs. */
        int signsBesideOptions(int choice) {
            // Each sentence counts a blank behind it, and the last one has none.
            int signs = choice == 0 ? 0 : -1;
            for (int heading = MOST_OPTIONS; heading < story.headingsEnd; heading++) {
                if (story.pieces[heading].staysIn(choice)) {
                    signs += story.pieces[heading].signs;
                }
            }
            for (int list = 0; list < story.lists; list++) {
                int items = Integer.bitCount(choice & story.listItems[list]);
                if (items > 1) {
                    // One sign for each comma, four for "and " behind the blank.
                    signs += items - 2 + 4;
                }
            }
            return signs + sumOfNamesPut(choice, true);
        }
    }

    /** Writes a sound choice as it is read, and keeps the latest one. */
    private static final class Reading {
        private static final int NOTHING = 0;
        private static final int BLANK = 1;
        private static final int COMMA = 2;
        private static final int AND = 3;

        private final Story story;
        private char[] row = new char[0];
        private int used = 0;
        private int written = NONE;
        private int joint = NOTHING;
        private int latestName = NONE;

        Reading(Story itsStory) {
            story = itsStory;
        }

        void forget() {
            written = NONE;
        }

        boolean holds(int choice) {
            return written == choice;
        }

        int signAt(int k) {
            return k >= 0 && k < used ? row[k] : NONE;
        }

        void write(int choice, int signs) {
            if (row.length < signs) {
                row = new char[Math.max(signs, 2 * row.length)];
            }
            used = 0;
            joint = NOTHING;
            latestName = NONE;
            for (int mark = 0; mark < story.marks.used; mark++) {
                if ((choice & story.keepOf(story.marks.pieceOf(mark))) != 0) {
                    writeMark(mark, choice);
                }
            }
            written = choice;
        }

        private void writeMark(int mark, int choice) {
            int piece = story.marks.pieceOf(mark);
            switch (story.marks.kindOf(mark)) {
                case ITEM_BEGINS:
                    joinItem(story.keepOf(piece), choice & story.itemsBeside(piece));
                    break;
                case SENTENCE_ENDS:
                    put(piece < MOST_OPTIONS ? '.' : ':');
                    break;
                default:
                    writeWord(mark);
            }
        }

        /** Items have the order of their bits: those ahead have lower ones, those behind higher ones. */
        private void joinItem(int item, int staying) {
            boolean isFirst = (staying & (item - 1)) == 0;
            boolean isLast = staying < 2 * item;
            if (!isFirst) {
                joint = isLast ? AND : COMMA;
            }
        }

        private void writeWord(int mark) {
            int kind = story.marks.kindOf(mark);
            int name = story.marks.nameOf(mark);
            putJoint();
            if (kind == LEANING && name != latestName) {
                putSigns(story.placeOfName(name), story.sizeOfName(name));
            } else {
                putSigns(story.marks.placeOf(mark), story.marks.sizeOf(mark));
            }
            if (kind != PLAIN_WORD) {
                latestName = name;
            }
            joint = BLANK;
        }

        private void putJoint() {
            if (joint == COMMA) {
                put(',');
            }
            if (joint == AND) {
                put(' ');
                put('a');
                put('n');
                put('d');
            }
            if (joint != NOTHING) {
                put(' ');
            }
        }

        private void putSigns(int from, int length) {
            for (int i = 0; i < length; i++) {
                put((char) story.signAt(from + i));
            }
        }

        private void put(char sign) {
            if (used < row.length) {
                row[used] = sign;
                used++;
            }
        }
    }

    /** All sound choices of a text, in the orders that are asked for; made when they are asked for first. */
    private static final class Ranks {
        private final Story story;
        private final Meter meter;
        private final Facts facts;
        private int[] choices = new int[0];
        private int[] signs = new int[0];
        private int[] told = new int[0];
        /** The weight of what a choice does not tell: the less, the greater its value. */
        private int[] untold = new int[0];
        private int[] byLength = new int[0];
        private int[] byRank = new int[0];
        private int[] heads = new int[0];
        private int used = 0;
        private boolean isMade = false;
        private boolean isRanked = false;

        Ranks(Story itsStory, Meter itsMeter, Facts itsFacts) {
            story = itsStory;
            meter = itsMeter;
            facts = itsFacts;
        }

        void forget() {
            isMade = false;
        }

        /** The weight of a fact has changed. */
        void weighAgain(int fact, int change) {
            if (isMade) {
                addToUntold(fact, change);
            }
            isRanked = false;
        }

        int howMany() {
            make();
            return used;
        }

        int bestFor(int room) {
            rank();
            for (int i = 0; i < used; i++) {
                int place = byRank[i];
                if (isPlace(place) && signs[place] <= room) {
                    return choices[place];
                }
            }
            return NONE;
        }

        int choiceAt(int itsRank) {
            rank();
            int place = isPlace(itsRank) ? byRank[itsRank] : NONE;
            return isPlace(place) ? choices[place] : NONE;
        }

        int leastFor(int wanted) {
            make();
            for (int i = 0; i < used; i++) {
                int place = byLength[i];
                if (isPlace(place) && (told[place] & wanted) == wanted) {
                    return signs[place];
                }
            }
            return NONE;
        }

        private boolean isPlace(int place) {
            return place >= 0 && place < used;
        }

        int nearest(int choice, int option) {
            rank();
            int nearest = NONE;
            int fewest = MOST_OPTIONS + 1;
            for (int i = 0; i < used; i++) {
                int place = byRank[i];
                int changed = isPlace(place) ? choices[place] ^ choice : 0;
                if ((changed & (1 << option)) != 0 && Integer.bitCount(changed) < fewest) {
                    fewest = Integer.bitCount(changed);
                    nearest = choice ^ changed;
                }
            }
            return nearest;
        }

        private void make() {
            if (isMade) {
                return;
            }
            makeRoom(1 << story.options);
            choices[0] = 0;
            signs[0] = 0;
            told[0] = 0;
            used = 1;
            for (int option = 0; option < story.options; option++) {
                addChoicesWith(story.pieces[option]);
            }
            for (int list = 0; list < story.lists; list++) {
                dropChoicesWithout(story.listItems[list], story.listWithin[list]);
            }
            for (int i = 0; i < used; i++) {
                signs[i] += meter.signsBesideOptions(choices[i]);
                told[i] |= story.toldByHeadingsIn(choices[i]);
                untold[i] = 0;
                byRank[i] = i;
            }
            for (int fact = 0; fact < FACTS; fact++) {
                addToUntold(fact, facts.weightOf(fact));
            }
            sort(byRank, signs, byLength);
            isMade = true;
            isRanked = false;
        }

        private void makeRoom(int most) {
            if (choices.length < most) {
                choices = new int[most];
                signs = new int[most];
                told = new int[most];
                untold = new int[most];
                byLength = new int[most];
                byRank = new int[most];
            }
        }

        /** Behind the choices of the options ahead come those with this one too: so they stand by number. */
        private void addChoicesWith(Piece piece) {
            int without = used;
            for (int i = 0; i < without; i++) {
                if (Story.holdsOrNone(choices[i], piece.within) && used < choices.length) {
                    choices[used] = choices[i] | piece.keep;
                    signs[used] = signs[i] + piece.signs;
                    told[used] = told[i] | piece.facts;
                    used++;
                }
            }
        }

        /** Drops those in which a list is read without an item. */
        private void dropChoicesWithout(int items, int within) {
            int kept = 0;
            for (int i = 0; i < used; i++) {
                boolean isRead = Story.holdsOrNone(choices[i], within);
                if (!isRead || (choices[i] & items) != 0) {
                    move(i, kept);
                    kept++;
                }
            }
            used = kept;
        }

        private void move(int from, int to) {
            if (isPlace(from) && isPlace(to)) {
                choices[to] = choices[from];
                signs[to] = signs[from];
                told[to] = told[from];
            }
        }

        private void addToUntold(int fact, int change) {
            if (change == 0) {
                return;
            }
            for (int i = 0; i < used; i++) {
                if ((told[i] & (1 << fact)) == 0) {
                    untold[i] += change;
                }
            }
        }

        private void rank() {
            make();
            if (!isRanked) {
                sort(byLength, untold, byRank);
                isRanked = true;
            }
        }

        /** Puts the places in from, by their keys, into to; those of one key keep their order. */
        private void sort(int[] from, int[] keys, int[] to) {
            int most = 0;
            for (int i = 0; i < used; i++) {
                most = Math.max(most, keys[i]);
            }
            clearHeads(most + 2);
            for (int i = 0; i < used; i++) {
                addOneOf(keys[i] + 1);
            }
            for (int key = 0; key < most; key++) {
                heads[key + 1] += heads[key];
            }
            for (int i = 0; i < used; i++) {
                int place = from[i];
                int slot = isPlace(place) ? addOneOf(keys[place]) : NONE;
                if (isPlace(slot)) {
                    to[slot] = place;
                }
            }
        }

        private void clearHeads(int many) {
            if (heads.length < many) {
                heads = new int[Math.max(many, 2 * heads.length)];
            }
            for (int key = 0; key < many; key++) {
                heads[key] = 0;
            }
        }

        /** One more of a key: how many there were. */
        private int addOneOf(int key) {
            if (key < 0 || key >= heads.length) {
                return NONE;
            }
            heads[key]++;
            return heads[key] - 1;
        }
    }
}
