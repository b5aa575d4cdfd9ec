import java.util.ArrayList;
import java.util.List;

/** The document in its plainest form, as a tree that is read anew for every question: what ShortTeller is held against. */
final class PlainTeller {
    static final class Fault extends Exception {
        private static final long serialVersionUID = 1L;
        final int kind;
        final int place;

        Fault(int itsKind, int itsPlace) {
            super(itsKind + " at " + itsPlace);
            kind = itsKind;
            place = itsPlace;
        }
    }

    private enum Kind { WORD, NAME, LEANING, FACT, ASIDE, LIST, ITEM, SENTENCE, HEADING }

    private static final class Node {
        final Kind kind;
        final List<Node> parts = new ArrayList<>();
        int option = -1;
        int start;
        String word = "";
        String meant = "";
        int fact = -1;

        Node(Kind itsKind) {
            kind = itsKind;
        }
    }

    private static final String OWN_SIGNS = "(){|}<>~*=.";

    private final String text;
    private int at = 0;
    private String latestName = "";
    private int sentenceWords = 0;
    private final List<Node> sentences = new ArrayList<>();
    final List<int[]> options = new ArrayList<>();
    final int[] places = new int[31];
    int known = 0;
    int words = 0;
    int headings = 0;
    private String nameInRead = "";
    private int put = 0;
    private List<Integer> order = null;

    PlainTeller(String itsText) throws Fault {
        text = itsText;
        skip();
        while (at < text.length()) {
            sentences.add(sentence());
            skip();
        }
    }

    private void skip() {
        while (at < text.length() && (text.charAt(at) == 10 || text.charAt(at) == 32)) {
            at++;
        }
    }

    private char here() {
        return at < text.length() ? text.charAt(at) : 0;
    }

    private static boolean isOfWord(char sign) {
        return sign >= 33 && sign <= 126 && OWN_SIGNS.indexOf(sign) < 0;
    }

    private static boolean beginsPart(char sign, boolean inHeading) {
        return isOfWord(sign) || "<*".indexOf(sign) >= 0 || (!inHeading && "({~".indexOf(sign) >= 0);
    }

    private int newOption(int kind, int within) throws Fault {
        if (options.size() == 14) {
            throw new Fault(2, at);
        }
        options.add(new int[] {kind, within, 0, 0});
        return options.size() - 1;
    }

    private Node sentence() throws Fault {
        sentenceWords = 0;
        int start = at;
        Node node;
        if (here() == '=') {
            node = new Node(Kind.HEADING);
            headings++;
            at++;
        } else {
            if (!beginsPart(here(), false)) {
                throw new Fault(1, at);
            }
            node = new Node(Kind.SENTENCE);
            node.option = newOption(0, -1);
        }
        node.start = start;
        parts(node, ".", 0, new ArrayList<>(List.of(node.option)));
        at++;
        return node;
    }

    /** Parts up to one of the ends, which is not taken; asks for the word at the end. */
    private void parts(Node node, String ends, int depth, List<Integer> around) throws Fault {
        boolean inHeading = node.kind == Kind.HEADING;
        skip();
        do {
            if (!beginsPart(here(), inHeading)) {
                throw new Fault(1, at);
            }
            node.parts.add(part(node.option, depth, around));
            skip();
        } while (beginsPart(here(), inHeading));
        if (at >= text.length() || ends.indexOf(here()) < 0) {
            throw new Fault(1, at);
        }
        if (!hasWord(node)) {
            throw new Fault(4, node.start);
        }
    }

    private static boolean hasWord(Node node) {
        for (Node part : node.parts) {
            boolean isWord = part.kind == Kind.WORD || part.kind == Kind.NAME || part.kind == Kind.LEANING;
            boolean isListed = part.kind == Kind.LIST || part.kind == Kind.ITEM;
            if (isWord || (isListed && hasWord(part))) {
                return true;
            }
        }
        return false;
    }

    private Node part(int option, int depth, List<Integer> around) throws Fault {
        switch (here()) {
            case '(':
                return aside(option, depth, around);
            case '{':
                return list(option, depth, around);
            case '<':
                return fact(option);
            case '*':
                at++;
                return word(Kind.NAME, around);
            case '~':
                if (latestName.isEmpty()) {
                    throw new Fault(3, at);
                }
                at++;
                return word(Kind.LEANING, around);
            default:
                return word(Kind.WORD, around);
        }
    }

    private Node word(Kind kind, List<Integer> around) throws Fault {
        int from = at;
        while (isOfWord(here())) {
            at++;
        }
        if (at == from) {
            throw new Fault(1, at);
        }
        if (at - from > 20 || sentenceWords == 40) {
            throw new Fault(2, from);
        }
        sentenceWords++;
        words++;
        for (int option : around) {
            if (option >= 0) {
                options.get(option)[2]++;
            }
        }
        Node node = new Node(kind);
        node.word = text.substring(from, at);
        if (kind == Kind.NAME) {
            latestName = node.word;
        }
        node.meant = latestName;
        return node;
    }

    private Node fact(int option) throws Fault {
        at++;
        int from = at;
        while (here() >= '0' && here() <= '9') {
            at++;
        }
        if (at == from) {
            throw new Fault(1, at);
        }
        String digits = text.substring(from, at).replaceFirst("^0+", "");
        if (digits.length() > 2 || (!digits.isEmpty() && Integer.parseInt(digits) > 30)) {
            throw new Fault(2, from);
        }
        if (here() != '>') {
            throw new Fault(1, at);
        }
        at++;
        Node node = new Node(Kind.FACT);
        node.fact = digits.isEmpty() ? 0 : Integer.parseInt(digits);
        places[node.fact]++;
        if (option >= 0) {
            options.get(option)[3] |= 1 << node.fact;
        }
        return node;
    }

    private Node aside(int option, int depth, List<Integer> around) throws Fault {
        if (depth == 4) {
            throw new Fault(2, at);
        }
        Node node = new Node(Kind.ASIDE);
        node.start = at;
        node.option = newOption(1, option);
        at++;
        List<Integer> within = new ArrayList<>(around);
        within.add(node.option);
        parts(node, ")", depth + 1, within);
        at++;
        return node;
    }

    private Node list(int option, int depth, List<Integer> around) throws Fault {
        if (depth == 4) {
            throw new Fault(2, at);
        }
        Node list = new Node(Kind.LIST);
        do {
            at++;
            skip();
            if (!beginsPart(here(), false)) {
                throw new Fault(1, at);
            }
            Node item = new Node(Kind.ITEM);
            item.start = at;
            item.option = newOption(2, option);
            List<Integer> within = new ArrayList<>(around);
            within.add(item.option);
            parts(item, list.parts.isEmpty() ? "|" : "|}", depth + 1, within);
            list.parts.add(item);
        } while (here() == '|');
        at++;
        return list;
    }

    private static boolean has(int choice, int option) {
        return option < 0 || (choice >> option & 1) == 1;
    }

    int all() {
        return (1 << options.size()) - 1;
    }

    int sound(int choice) {
        if ((choice & ~all()) != 0) {
            return -1;
        }
        for (int option = 0; option < options.size(); option++) {
            if (has(choice, option) && !has(choice, options.get(option)[1])) {
                return 0;
            }
        }
        for (Node sentence : sentences) {
            if (has(choice, sentence.option) && !listsHaveItems(sentence, choice)) {
                return 0;
            }
        }
        return 1;
    }

    private static boolean listsHaveItems(Node node, int choice) {
        boolean some = node.kind != Kind.LIST;
        for (Node part : node.parts) {
            if (part.kind == Kind.LIST || has(choice, part.option)) {
                some = true;
                if (!listsHaveItems(part, choice)) {
                    return false;
                }
            }
        }
        return some;
    }

    private boolean stays(int sentence, int choice) {
        Node node = sentences.get(sentence);
        if (node.kind == Kind.SENTENCE) {
            return has(choice, node.option);
        }
        for (int i = sentence + 1; i < sentences.size() && sentences.get(i).kind == Kind.SENTENCE; i++) {
            if (has(choice, sentences.get(i).option)) {
                return true;
            }
        }
        return false;
    }

    String read(int choice) {
        nameInRead = "";
        put = 0;
        List<String> read = new ArrayList<>();
        for (int i = 0; i < sentences.size(); i++) {
            if (stays(i, choice)) {
                String end = sentences.get(i).kind == Kind.HEADING ? ":" : ".";
                read.add(readParts(sentences.get(i), choice) + end);
            }
        }
        return String.join(" ", read);
    }

    private String readParts(Node node, int choice) {
        List<String> read = new ArrayList<>();
        for (Node part : node.parts) {
            if (part.kind == Kind.FACT || !has(choice, part.option)) {
                continue;
            }
            read.add(readPart(part, choice));
        }
        return String.join(" ", read);
    }

    private String readPart(Node part, int choice) {
        switch (part.kind) {
            case LIST:
                return readList(part, choice);
            case ASIDE:
                return readParts(part, choice);
            case NAME:
                nameInRead = part.word;
                return part.word;
            case LEANING:
                if (nameInRead.equals(part.meant)) {
                    return part.word;
                }
                put++;
                nameInRead = part.meant;
                return part.meant;
            default:
                return part.word;
        }
    }

    private String readList(Node list, int choice) {
        List<String> items = new ArrayList<>();
        for (Node item : list.parts) {
            if (has(choice, item.option)) {
                items.add(readParts(item, choice));
            }
        }
        String last = items.remove(items.size() - 1);
        return items.isEmpty() ? last : String.join(", ", items) + " and " + last;
    }

    int named(int choice) {
        read(choice);
        return put;
    }

    int facts() {
        int bits = 0;
        for (int fact = 0; fact < 31; fact++) {
            bits |= places[fact] > 0 ? 1 << fact : 0;
        }
        return bits;
    }

    int told(int choice) {
        int told = 0;
        for (int i = 0; i < sentences.size(); i++) {
            told |= stays(i, choice) ? told(sentences.get(i), choice) : 0;
        }
        return told;
    }

    private static int told(Node node, int choice) {
        int told = node.kind == Kind.FACT ? 1 << node.fact : 0;
        for (Node part : node.parts) {
            told |= has(choice, part.option) ? told(part, choice) : 0;
        }
        return told;
    }

    int weight(int fact) {
        if (fact < 0 || fact > 30 || places[fact] == 0) {
            return -1;
        }
        return (known >> fact & 1) == 1 ? 0 : places[fact];
    }

    boolean knows(int fact, boolean is) {
        if (weight(fact) < 0) {
            return false;
        }
        known = is ? known | 1 << fact : known & ~(1 << fact);
        order = null;
        return true;
    }

    int value(int choice) {
        int told = told(choice);
        int sum = 0;
        for (int fact = 0; fact < 31; fact++) {
            sum += (told >> fact & 1) == 1 ? weight(fact) : 0;
        }
        return sum;
    }

    /** All sound choices by value, length and number. */
    List<Integer> order() {
        if (order == null) {
            List<int[]> rows = new ArrayList<>();
            for (int choice = 0; choice <= all(); choice++) {
                if (sound(choice) == 1) {
                    rows.add(new int[] {-value(choice), read(choice).length(), choice});
                }
            }
            rows.sort(java.util.Arrays::compare);
            order = new ArrayList<>();
            for (int[] row : rows) {
                order.add(row[2]);
            }
        }
        return order;
    }

    int best(int room) {
        for (int choice : order()) {
            if (read(choice).length() <= room) {
                return choice;
            }
        }
        return -1;
    }

    int ranked(int rank) {
        return rank < 0 || rank >= order().size() ? -1 : order().get(rank);
    }

    int least(int facts) {
        int least = -1;
        for (int choice : order()) {
            int length = read(choice).length();
            if ((told(choice) & facts) == facts && (least < 0 || length < least)) {
                least = length;
            }
        }
        return least;
    }

    int turned(int choice, int option) {
        if (sound(choice) != 1 || option < 0 || option >= options.size()) {
            return -1;
        }
        int[] best = null;
        for (int other : order()) {
            if (has(other, option) != has(choice, option)) {
                int[] row = {Integer.bitCount(other ^ choice), -value(other), read(other).length(), other};
                best = best == null || java.util.Arrays.compare(row, best) < 0 ? row : best;
            }
        }
        return best == null ? -1 : best[3];
    }
}
