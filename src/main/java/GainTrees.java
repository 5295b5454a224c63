import java.util.NoSuchElementException;

/** A bench that grows trees that decide. What each call does is told by ../shared/DOC.md, promise by promise. */
public final class GainTrees {
    public static final int NONE = -1;

    private static final int MOST_TAPE = 4000;
    private static final int MOST_RESULT = 6000;
    private static final int FED = 20;
    private static final int MOST_CLASSES = 6;
    private static final int MOST_ATTRIBUTES = 8;
    private static final int MOST_VALUES = 8;
    private static final int MOST_LETTERS = 12;
    private static final int MOST_TRAINING = 200;
    private static final int MOST_HOLDOUT = 100;
    private static final int MOST_DEPTH = 60;
    private static final int MOST_LEAST = 20;
    private static final int MOST_FOLDS = 10;
    /** A fork parts its rows among two children or more, so a grown tree has at most 199 forks of 8 children. */
    private static final int MOST_NODES = 1600;
    private static final int MODE_GAIN = 0;
    private static final int MODE_RATIO = 1;
    private static final int MODE_SQUARES = 2;
    private static final int SYNTAX = 1;
    private static final int NAME = 2;
    private static final int RANGE = 3;
    private static final int ROOM = 4;
    private static final int AT_MOST = 0;
    private static final int ABOVE = 1;
    private static final int EQUAL = 2;
    private static final int TRAINING = 0;
    private static final int HOLDOUT = 1;
    private static final int BY_TREE = 0;
    private static final int BY_RULES = 1;

    private final Bytes tape;
    private final Bytes result;
    private final Reader reader;
    private final Writer writer;
    private final Table training;
    private final Table holdout;
    private final Table single;
    private final Scale scale;
    private final Grower grower;
    private final Split first;
    private final Split second;
    private final Rules made;
    private Names known;
    private Names spareNames;
    private Tree grown;
    private Tree spareTree;

    public GainTrees() {
        tape = new Bytes(MOST_TAPE);
        result = new Bytes(MOST_RESULT);
        reader = new Reader(tape);
        writer = new Writer(result);
        training = new Table(MOST_TRAINING);
        holdout = new Table(MOST_HOLDOUT);
        single = new Table(1);
        scale = new Scale();
        first = new Split();
        second = new Split();
        made = new Rules();
        known = new Names();
        spareNames = new Names();
        grown = new Tree();
        spareTree = new Tree();
        grower = new Grower(scale, training, known, grown);
    }

    public int feed(int a, int b, int c, int d, int e) {
        if (tape.kept + FED > MOST_TAPE) {
            return NONE;
        }
        feedFour(a);
        feedFour(b);
        feedFour(c);
        feedFour(d);
        feedFour(e);
        return tape.kept;
    }

    private void feedFour(int number) {
        for (int shift = 24; shift >= 0; shift -= 8) {
            tape.add(number >>> shift);
        }
    }

    public boolean end(int n) {
        if (n < 0 || n > tape.kept) {
            return false;
        }
        tape.shorten(n);
        return true;
    }

    public int again() {
        tape.shorten(0);
        for (int i = 0; i < result.kept && i < MOST_TAPE; i++) {
            tape.add(result.at(i));
        }
        return tape.kept;
    }

    public int names() {
        boolean good = reader.readNames(spareNames);
        tape.shorten(0);
        if (!good) {
            return NONE;
        }
        Names read = spareNames;
        spareNames = known;
        known = read;
        training.size = 0;
        holdout.size = 0;
        grown.wipe();
        made.drop();
        return known.attributes;
    }

    public int rows(int set) throws IllegalArgumentException, IllegalStateException {
        needSet(set);
        needNames();
        Table table = tableOf(set);
        boolean good = reader.readRows(known, table);
        tape.shorten(0);
        return good ? table.size : NONE;
    }

    public int clear(int set) throws IllegalArgumentException {
        needSet(set);
        Table table = tableOf(set);
        int gone = table.size;
        table.size = 0;
        return gone;
    }

    public int fault(int what) {
        if (what == 0) {
            return reader.fault;
        }
        return what == 1 ? reader.faultAt : NONE;
    }

    public int row(int set, int i, int k) throws IllegalArgumentException, NoSuchElementException {
        needSet(set);
        Table table = tableOf(set);
        if (i < 0 || i >= table.size || k < 0 || k > known.attributes) {
            throw new NoSuchElementException("no such row or attribute");
        }
        return k == known.attributes ? table.classOf(i) : table.cell(i, k);
    }

    public int grow(int mode, int least, int depth) throws IllegalArgumentException, IllegalStateException {
        needManner(mode, least, depth);
        needRows(1);
        grower.aim(mode, least, depth);
        grower.gather(1, NONE);
        grower.build(known, grown);
        made.drop();
        return grown.nodes;
    }

    public int tree() throws IllegalStateException {
        needNames();
        boolean good = reader.readTree(known, spareTree);
        tape.shorten(0);
        made.drop();
        if (!good) {
            return NONE;
        }
        Tree read = spareTree;
        spareTree = grown;
        grown = read;
        grown.finish();
        grown.receive(training);
        return grown.nodes;
    }

    public int prune() throws IllegalStateException {
        needTree();
        made.drop();
        return grown.trim(holdout);
    }

    public int node(int node, int what) throws IllegalStateException, NoSuchElementException {
        needTree();
        needNode(node);
        int child = what - 10;
        if (child >= 0 && child < grown.kids[node]) {
            return grown.childOf(node, child);
        }
        int c = what - 20;
        if (c >= 0 && c < known.classes) {
            return grown.counts[node * MOST_CLASSES + c];
        }
        if (what < 0 || what > 5) {
            throw new NoSuchElementException("a node has nothing of that number");
        }
        return grown.plain(node, what);
    }

    public int compare(int node, int a, int cutA, int b, int cutB)
            throws IllegalStateException, NoSuchElementException {
        needNodeWithRows(node);
        needAttribute(a);
        needAttribute(b);
        fillSplit(first, node, a, cutA);
        fillSplit(second, node, b, cutB);
        return scale.order(MODE_GAIN, first, second);
    }

    public int gain(int node, int attribute, int cut, int what) throws IllegalStateException, NoSuchElementException {
        needNodeWithRows(node);
        needAttribute(attribute);
        if (what != 0 && what != 1) {
            throw new NoSuchElementException("a split has nothing of that number");
        }
        fillSplit(first, node, attribute, cut);
        return (int) (what == 0 ? scale.gainOf(first) : scale.widthOf(first));
    }

    public int decide(int by) throws IllegalArgumentException, IllegalStateException {
        needWay(by);
        needDecider(by);
        boolean good = reader.readRow(known, single);
        tape.shorten(0);
        return good ? decisionOn(by, single, 0) : NONE;
    }

    public int tried(int set, int by, int c, int d) throws IllegalArgumentException, IllegalStateException {
        needSet(set);
        needWay(by);
        needDecider(by);
        Table table = tableOf(set);
        int many = 0;
        for (int i = 0; i < table.size; i++) {
            if ((c == NONE || table.classOf(i) == c) && (d == NONE || decisionOn(by, table, i) == d)) {
                many++;
            }
        }
        return many;
    }

    public int errors(int set, int by) throws IllegalArgumentException, IllegalStateException {
        needSet(set);
        needWay(by);
        needDecider(by);
        Table table = tableOf(set);
        int many = 0;
        for (int i = 0; i < table.size; i++) {
            if (decisionOn(by, table, i) != table.classOf(i)) {
                many++;
            }
        }
        return many;
    }

    public int folds(int k, int mode, int least, int depth) throws IllegalArgumentException, IllegalStateException {
        if (k < 2 || k > MOST_FOLDS) {
            throw new IllegalArgumentException("folds are 2 to 10");
        }
        needManner(mode, least, depth);
        needRows(k);
        grower.aim(mode, least, depth);
        int wrong = 0;
        for (int f = 0; f < k; f++) {
            grower.gather(k, f);
            grower.build(known, spareTree);
            for (int i = f; i < training.size; i += k) {
                if (spareTree.decisionOn(training, i) != training.classOf(i)) {
                    wrong++;
                }
            }
        }
        return wrong;
    }

    public int rules() throws IllegalStateException {
        needTree();
        made.make(grown, training);
        return made.many;
    }

    public int rule(int rule, int what) throws NoSuchElementException {
        if (rule < 0 || rule >= made.many || what < 0 || what > 3) {
            throw new NoSuchElementException("no such rule");
        }
        return made.plain(made.ranked[rule], what);
    }

    public int condition(int rule, int i, int what) throws NoSuchElementException {
        if (rule < 0 || rule >= made.many || i < 0 || what < 0 || what > 2) {
            throw new NoSuchElementException("no such condition");
        }
        int r = made.ranked[rule];
        if (i >= made.size[r]) {
            throw new NoSuchElementException("the rule has fewer conditions");
        }
        int at = made.start[r] + i;
        if (what == 0) {
            return made.attribute[at];
        }
        return what == 1 ? made.sort[at] : made.bound[at];
    }

    public int write(int what) throws IllegalArgumentException, IllegalStateException {
        if (what != 0 && what != 1) {
            throw new IllegalArgumentException("the tree is 0, the rules are 1");
        }
        needDecider(what);
        if (what == BY_TREE) {
            writer.writeTree(known, grown);
        } else {
            writer.writeRules(known, made);
        }
        return result.told;
    }

    public int letter(int i) {
        return result.at(i);
    }

    public int count(int what) {
        switch (what) {
            case 0:
                return known.classes;
            case 1:
                return known.attributes;
            case 2:
                return training.size;
            case 3:
                return holdout.size;
            case 4:
                return grown.nodes;
            case 5:
                return made.many;
            case 6:
                return made.stand ? made.otherwise : NONE;
            case 7:
                return tape.kept;
            case 8:
                return result.kept;
            case 9:
                return grown.leaves();
            default:
                return known.valuesOf(what - 10);
        }
    }

    private static void needSet(int set) {
        if (set != TRAINING && set != HOLDOUT) {
            throw new IllegalArgumentException("training is 0, holdout is 1");
        }
    }

    private static void needWay(int by) {
        if (by != BY_TREE && by != BY_RULES) {
            throw new IllegalArgumentException("the tree is 0, the rules are 1");
        }
    }

    private static void needManner(int mode, int least, int depth) {
        if (mode < MODE_GAIN || mode > MODE_SQUARES) {
            throw new IllegalArgumentException("modes are 0 to 2");
        }
        if (least < 1 || least > MOST_LEAST || depth < 0 || depth > MOST_DEPTH) {
            throw new IllegalArgumentException("least is 1 to 20, depth 0 to 60");
        }
    }

    private void needNames() {
        if (known.attributes == 0) {
            throw new IllegalStateException("there are no names");
        }
    }

    private void needRows(int many) {
        if (training.size < many) {
            throw new IllegalStateException("training has too few rows");
        }
    }

    private void needTree() {
        if (grown.nodes == 0) {
            throw new IllegalStateException("there is no tree");
        }
    }

    private void needDecider(int by) {
        needTree();
        if (by == BY_RULES && !made.stand) {
            throw new IllegalStateException("rules were not made of the tree");
        }
    }

    private void needNode(int node) {
        if (node < 0 || node >= grown.nodes) {
            throw new NoSuchElementException("no such node");
        }
    }

    private void needNodeWithRows(int node) {
        needTree();
        needNode(node);
        for (int i = 0; i < training.size; i++) {
            if (grown.comesTo(training, i, node)) {
                return;
            }
        }
        throw new IllegalStateException("no row of training comes to the node");
    }

    private void needAttribute(int k) {
        if (k < 0 || k >= known.attributes) {
            throw new NoSuchElementException("no such attribute");
        }
    }

    private Table tableOf(int set) {
        return set == TRAINING ? training : holdout;
    }

    private int decisionOn(int by, Table table, int i) {
        return by == BY_TREE ? grown.decisionOn(table, i) : made.decisionOn(table, i);
    }

    private void fillSplit(Split split, int node, int k, int cut) {
        split.open(k, known.valuesOf(k), cut);
        for (int i = 0; i < training.size; i++) {
            if (grown.comesTo(training, i, node)) {
                split.take(split.branch(training, i), training.classOf(i));
            }
        }
        scale.weigh(split);
    }

    /** Bytes in order up to a bound; those behind the bound are counted, not kept. */
    private static final class Bytes {
        private final byte[] data;
        int kept;
        int told;

        Bytes(int most) {
            data = new byte[Math.max(most, 0)];
        }

        void shorten(int n) {
            if (n >= 0 && n <= kept) {
                kept = n;
                told = n;
            }
        }

        void add(int value) {
            if (kept < data.length) {
                data[kept] = (byte) value;
                kept++;
            }
            told++;
        }

        int at(int i) {
            return i >= 0 && i < kept ? data[i] & 255 : NONE;
        }
    }

    /** The classes, the attributes and their values; each name lies in a slot of its own. */
    private static final class Names {
        private static final int ATTRIBUTE_SLOTS = MOST_CLASSES;
        private static final int VALUE_SLOTS = MOST_CLASSES + MOST_ATTRIBUTES;
        private static final int SLOTS = VALUE_SLOTS + MOST_ATTRIBUTES * MOST_VALUES;

        private final byte[] letters = new byte[SLOTS * MOST_LETTERS];
        private final int[] lengths = new int[SLOTS];
        private final int[] values = new int[MOST_ATTRIBUTES];
        int classes;
        int attributes;

        void wipe() {
            classes = 0;
            attributes = 0;
        }

        static int attributeSlot(int k) {
            return ATTRIBUTE_SLOTS + k;
        }

        static int valueSlot(int k, int v) {
            return VALUE_SLOTS + k * MOST_VALUES + v;
        }

        /** How many values an attribute has (0 of a measured one); NONE of what is no attribute. */
        int valuesOf(int k) {
            return k >= 0 && k < attributes ? values[k] : NONE;
        }

        void addAttribute() {
            if (attributes < MOST_ATTRIBUTES) {
                values[attributes] = 0;
                attributes++;
            }
        }

        void setValues(int k, int many) {
            if (k >= 0 && k < attributes) {
                values[k] = many;
            }
        }

        void put(int slot, Bytes text, int from, int to) {
            int length = to - from;
            if (slot < 0 || slot >= SLOTS || length < 0 || length > MOST_LETTERS) {
                return;
            }
            for (int i = 0; i < length; i++) {
                letters[slot * MOST_LETTERS + i] = (byte) text.at(from + i);
            }
            lengths[slot] = length;
        }

        /** Which of so many slots, from the first one on, holds the word; NONE if none does. */
        int seek(int slot, int many, Bytes text, int from, int to) {
            for (int i = 0; i < many; i++) {
                if (holds(slot + i, text, from, to)) {
                    return i;
                }
            }
            return NONE;
        }

        private boolean holds(int slot, Bytes text, int from, int to) {
            if (lengthOf(slot) != to - from) {
                return false;
            }
            for (int i = 0; i < to - from; i++) {
                if (letterOf(slot, i) != text.at(from + i)) {
                    return false;
                }
            }
            return true;
        }

        int lengthOf(int slot) {
            return slot >= 0 && slot < SLOTS ? lengths[slot] : 0;
        }

        int letterOf(int slot, int i) {
            return slot >= 0 && slot < SLOTS && i >= 0 && i < MOST_LETTERS ? letters[slot * MOST_LETTERS + i] : 0;
        }
    }

    /** Rows: of each its numbers by attributes and its class. */
    private static final class Table {
        private static final int WIDTH = MOST_ATTRIBUTES + 1;

        final int most;
        private final int[] cells;
        int size;

        Table(int most) {
            this.most = Math.max(most, 0);
            cells = new int[this.most * WIDTH];
        }

        private static boolean isColumn(int k) {
            return k >= 0 && k < WIDTH;
        }

        int cell(int i, int k) {
            return i >= 0 && i < most && isColumn(k) ? cells[i * WIDTH + k] : 0;
        }

        int classOf(int i) {
            return cell(i, MOST_ATTRIBUTES);
        }

        void put(int i, int k, int value) {
            if (i >= 0 && i < most && isColumn(k)) {
                cells[i * WIDTH + k] = value;
            }
        }
    }

    /** Reads the texts on the tape, token by token, up to the first fault. */
    private static final class Reader {
        private static final int NO_TOKEN = 0;
        private static final int END = 1;
        private static final int WORD = 2;
        private static final int NUMBER = 3;
        private static final int MOST_DIGITS = 7;
        private static final int MOST_BEHIND = 3;
        private static final long MOST_NUMBER = 1000000000L;

        private final Bytes tape;
        int fault;
        int faultAt = NONE;
        /** The sort of the token at hand: one of the four above, or the first byte of a sign. */
        private int kind;
        private int from;
        private int to;
        private long number;
        private int value;
        private int under;
        private int child;

        Reader(Bytes tape) {
            this.tape = tape;
        }

        private void begin() {
            fault = 0;
            faultAt = NONE;
            to = 0;
            step();
        }

        private boolean fail(int sort) {
            fault = sort;
            faultAt = from;
            return false;
        }

        private static boolean isBlank(int b) {
            return b == 32 || b == 10;
        }

        private static boolean isDigit(int b) {
            return b >= '0' && b <= '9';
        }

        private static boolean isLetter(int b) {
            return b >= 'a' && b <= 'z';
        }

        private void step() {
            while (to < tape.kept && isBlank(tape.at(to))) {
                to++;
            }
            from = to;
            int b = tape.at(from);
            if (b == NONE) {
                kind = END;
            } else if (isLetter(b)) {
                stepWord();
            } else if (isDigit(b) || b == '-' && isDigit(tape.at(from + 1))) {
                stepNumber();
            } else {
                stepSign(b);
            }
        }

        private void stepWord() {
            while (to < tape.kept && (isLetter(tape.at(to)) || isDigit(tape.at(to)) || tape.at(to) == '_')) {
                to++;
            }
            kind = to - from > MOST_LETTERS ? NO_TOKEN : WORD;
        }

        private void stepNumber() {
            boolean below = tape.at(to) == '-';
            if (below) {
                to++;
            }
            int start = to;
            number = 0;
            while (to < tape.kept && isDigit(tape.at(to))) {
                if (to - start < MOST_DIGITS) {
                    number = number * 10 + (tape.at(to) - '0');
                }
                to++;
            }
            boolean good = to - start <= MOST_DIGITS;
            number = number * 1000;
            if (tape.at(to) == '.' && isDigit(tape.at(to + 1))) {
                to++;
                start = to;
                int worth = 100;
                while (to < tape.kept && isDigit(tape.at(to))) {
                    number += worth * (tape.at(to) - '0');
                    worth /= 10;
                    to++;
                }
                good = good && to - start <= MOST_BEHIND;
            }
            number = below ? -number : number;
            kind = good ? NUMBER : NO_TOKEN;
        }

        private void stepSign(int b) {
            boolean plain = b == ',' || b == ':' || b == ';' || b == '{' || b == '}';
            boolean atMost = b == '<' && tape.at(to + 1) == '=';
            to += atMost ? 2 : 1;
            kind = plain || atMost ? b : NO_TOKEN;
        }

        private boolean isWord(String word) {
            if (kind != WORD || word.length() != to - from) {
                return false;
            }
            for (int i = 0; i < word.length(); i++) {
                if (word.charAt(i) != tape.at(from + i)) {
                    return false;
                }
            }
            return true;
        }

        private boolean isReserved() {
            return isWord("classes") || isWord("measured") || isWord("is") || isWord("by") || isWord("else");
        }

        private boolean takeSign(int sign) {
            if (kind != sign) {
                return fail(SYNTAX);
            }
            step();
            return true;
        }

        private boolean takeWord(String word) {
            if (!isWord(word)) {
                return fail(SYNTAX);
            }
            step();
            return true;
        }

        boolean readNames(Names into) {
            begin();
            into.wipe();
            if (!takeWord("classes")) {
                return false;
            }
            into.classes = readList(into, 0, MOST_CLASSES);
            if (into.classes == 0) {
                return false;
            }
            for (int k = 0; k <= MOST_ATTRIBUTES; k++) {
                if (!readAttribute(into, k)) {
                    return false;
                }
                if (kind == END) {
                    return true;
                }
            }
            return false;
        }

        private boolean readAttribute(Names into, int k) {
            if (!readName(into, Names.attributeSlot(0), k, MOST_ATTRIBUTES)) {
                return false;
            }
            into.addAttribute();
            if (!takeSign(':')) {
                return false;
            }
            if (isWord("measured")) {
                step();
                return takeSign(';');
            }
            into.setValues(k, readList(into, Names.valueSlot(k, 0), MOST_VALUES));
            return into.valuesOf(k) > 0;
        }

        /** Two names or more, with , between them and ; behind the last: how many; 0 with a fault. */
        private int readList(Names into, int slot, int most) {
            for (int i = 0; i <= most; i++) {
                if (!readName(into, slot, i, most)) {
                    return 0;
                }
                if (i > 0 && kind == ';') {
                    step();
                    return i + 1;
                }
                if (!takeSign(',')) {
                    return 0;
                }
            }
            return 0;
        }

        /** A new name behind so many others of its sort, the first of which lies in the slot. */
        private boolean readName(Names into, int slot, int others, int most) {
            if (kind != WORD) {
                return fail(SYNTAX);
            }
            if (isReserved() || into.seek(slot, others, tape, from, to) != NONE) {
                return fail(NAME);
            }
            if (others >= most) {
                return fail(ROOM);
            }
            into.put(slot + others, tape, from, to);
            step();
            return true;
        }

        boolean readRows(Names names, Table table) {
            begin();
            for (int i = table.size; i <= table.most; i++) {
                if (kind == END) {
                    table.size = i;
                    return true;
                }
                if (!readCells(names, table, i) || !readClass(names)) {
                    return false;
                }
                table.put(i, MOST_ATTRIBUTES, value);
                if (!takeSign(';')) {
                    return false;
                }
            }
            return false;
        }

        private boolean readCells(Names names, Table table, int i) {
            for (int k = 0; k < names.attributes; k++) {
                if (!readCell(names, table, i, k) || !takeSign(',')) {
                    return false;
                }
            }
            return true;
        }

        /** The row for a decision: its numbers without a class. */
        boolean readRow(Names names, Table table) {
            begin();
            for (int k = 0; k < names.attributes; k++) {
                if (k > 0 && !takeSign(',')) {
                    return false;
                }
                if (!readCell(names, table, 0, k)) {
                    return false;
                }
            }
            return kind == END || fail(SYNTAX);
        }

        private boolean readCell(Names names, Table table, int i, int k) {
            int values = names.valuesOf(k);
            boolean good = values > 0 ? seekWord(names, Names.valueSlot(k, 0), values) : checkNumber();
            if (!good) {
                return false;
            }
            if (i >= table.most) {
                return fail(ROOM);
            }
            table.put(i, k, value);
            step();
            return true;
        }

        private boolean checkNumber() {
            if (kind != NUMBER) {
                return fail(SYNTAX);
            }
            if (number < -MOST_NUMBER || number > MOST_NUMBER) {
                return fail(RANGE);
            }
            value = (int) number;
            return true;
        }

        private boolean seekWord(Names names, int slot, int many) {
            if (kind != WORD) {
                return fail(SYNTAX);
            }
            value = names.seek(slot, many, tape, from, to);
            return value != NONE || fail(NAME);
        }

        private boolean readClass(Names names) {
            if (!seekWord(names, 0, names.classes)) {
                return false;
            }
            step();
            return true;
        }

        boolean readTree(Names names, Tree into) {
            begin();
            into.wipe();
            under = NONE;
            child = 0;
            for (int i = 0; i < MOST_NODES; i++) {
                if (isWord("by")) {
                    if (!readFork(names, into)) {
                        return false;
                    }
                } else if (!readLeaf(names, into) || !closeForks(names, into)) {
                    return false;
                } else if (under == NONE) {
                    return kind == END || fail(SYNTAX);
                }
            }
            return fail(ROOM);
        }

        private boolean readLeaf(Names names, Tree into) {
            if (!takeWord("is") || !readClass(names)) {
                return false;
            }
            int at = into.add(under, child);
            if (at == NONE) {
                return fail(ROOM);
            }
            into.result[at] = value;
            return true;
        }

        private boolean readFork(Names names, Tree into) {
            if (into.depthBelow(under) >= MOST_DEPTH) {
                return fail(ROOM);
            }
            step();
            if (!seekWord(names, Names.attributeSlot(0), names.attributes)) {
                return false;
            }
            int k = value;
            int values = names.valuesOf(k);
            step();
            if (!takeSign(values == 0 ? '<' : '{') || values == 0 && !checkNumber()) {
                return false;
            }
            int at = into.add(under, child);
            if (at == NONE) {
                return fail(ROOM);
            }
            into.fork(at, k, values, value);
            under = at;
            child = 0;
            if (values > 0) {
                return readLabel(names, k, 0);
            }
            step();
            return true;
        }

        private boolean readLabel(Names names, int k, int v) {
            if (!seekWord(names, Names.valueSlot(k, v), 1)) {
                return false;
            }
            step();
            return takeSign(':');
        }

        /** From the leaf just read up to the fork whose next child must come; the tokens between are read. */
        private boolean closeForks(Names names, Tree into) {
            int at = Math.max(into.nodes - 1, 0);
            for (int level = 0; level <= MOST_DEPTH; level++) {
                under = into.parent[at];
                if (under == NONE) {
                    return true;
                }
                child = into.place[at] + 1;
                int k = into.attribute[under];
                boolean cut = into.byCut[under];
                if (child < into.kids[under]) {
                    return cut ? takeWord("else") : readLabel(names, k, child);
                }
                if (!cut && !takeSign('}')) {
                    return false;
                }
                at = under;
            }
            return fail(ROOM);
        }
    }

    /** Nodes, each ahead of all that is below it. */
    private static final class Tree {
        final int[] attribute = new int[MOST_NODES];
        final int[] cut = new int[MOST_NODES];
        final boolean[] byCut = new boolean[MOST_NODES];
        final int[] result = new int[MOST_NODES];
        final int[] amount = new int[MOST_NODES];
        final int[] kids = new int[MOST_NODES];
        final int[] depth = new int[MOST_NODES];
        final int[] parent = new int[MOST_NODES];
        final int[] place = new int[MOST_NODES];
        final int[] counts = new int[MOST_NODES * MOST_CLASSES];
        /** The number behind the last node below this one. */
        private final int[] after = new int[MOST_NODES];
        private final int[] wrongHere = new int[MOST_NODES];
        private final int[] wrongBelow = new int[MOST_NODES];
        int nodes;

        void wipe() {
            nodes = 0;
        }

        int depthBelow(int up) {
            return up >= 0 && up < nodes ? depth[up] + 1 : 0;
        }

        /** A new leaf, the child at that place of a node (NONE ahead of the first one); NONE without room. */
        int add(int up, int child) {
            if (nodes >= MOST_NODES) {
                return NONE;
            }
            int at = nodes;
            depth[at] = depthBelow(up);
            parent[at] = up;
            place[at] = child;
            result[at] = 0;
            amount[at] = 0;
            for (int c = 0; c < MOST_CLASSES; c++) {
                counts[at * MOST_CLASSES + c] = 0;
            }
            makeLeaf(at);
            nodes++;
            return at;
        }

        private void makeLeaf(int at) {
            attribute[at] = NONE;
            cut[at] = 0;
            byCut[at] = false;
            kids[at] = 0;
        }

        /** A leaf becomes a fork by an attribute that has so many values, or, with none, by a cut. */
        void fork(int at, int k, int values, int number) {
            if (at < 0 || at >= nodes) {
                return;
            }
            attribute[at] = k;
            byCut[at] = values == 0;
            cut[at] = values == 0 ? number : 0;
            kids[at] = values == 0 ? 2 : values;
        }

        /** Finds where each node ends; it must be called when all nodes are there, ahead of any way down. */
        void finish() {
            for (int at = nodes - 1; at >= 0; at--) {
                int next = at + 1;
                for (int j = 0; j < kids[at] && next < nodes; j++) {
                    next = after[next];
                }
                after[at] = next;
            }
        }

        int childOf(int at, int j) {
            int next = at + 1;
            for (int i = 0; i < j && next < nodes; i++) {
                next = after[next];
            }
            return next < nodes ? next : at;
        }

        private int childFor(int at, Table table, int i) {
            int number = table.cell(i, attribute[at]);
            if (byCut[at]) {
                return childOf(at, number <= cut[at] ? 0 : 1);
            }
            return childOf(at, number);
        }

        int leafOf(Table table, int i) {
            int at = 0;
            for (int level = 0; level < MOST_DEPTH && kids[at] > 0; level++) {
                at = childFor(at, table, i);
            }
            return at;
        }

        int decisionOn(Table table, int i) {
            return result[leafOf(table, i)];
        }

        /** Numbers grow on the way down, so a way that is past the node misses it. */
        boolean comesTo(Table table, int i, int node) {
            int at = 0;
            for (int level = 0; level < MOST_DEPTH && at < node && kids[at] > 0; level++) {
                at = childFor(at, table, i);
            }
            return at == node;
        }

        void note(int at, int c) {
            if (at >= 0 && at < nodes && c >= 0 && c < MOST_CLASSES) {
                amount[at]++;
                counts[at * MOST_CLASSES + c]++;
            }
        }

        /** The rows come down a tree that was read; its leaves keep the classes told there. */
        void receive(Table table) {
            for (int i = 0; i < table.size; i++) {
                int at = 0;
                note(at, table.classOf(i));
                for (int level = 0; level < MOST_DEPTH && kids[at] > 0; level++) {
                    at = childFor(at, table, i);
                    note(at, table.classOf(i));
                }
            }
            for (int at = 0; at < nodes; at++) {
                if (kids[at] > 0) {
                    result[at] = commonest(at);
                }
            }
        }

        int commonest(int at) {
            if (amount[at] == 0) {
                return parent[at] >= 0 ? result[parent[at]] : 0;
            }
            int best = 0;
            for (int c = 1; c < MOST_CLASSES; c++) {
                if (counts[at * MOST_CLASSES + c] > counts[at * MOST_CLASSES + best]) {
                    best = c;
                }
            }
            return best;
        }

        int plain(int at, int what) {
            switch (what) {
                case 0:
                    return attribute[at];
                case 1:
                    return cut[at];
                case 2:
                    return result[at];
                case 3:
                    return amount[at];
                case 4:
                    return kids[at];
                default:
                    return depth[at];
            }
        }

        int leaves() {
            int many = 0;
            for (int at = 0; at < nodes; at++) {
                if (kids[at] == 0) {
                    many++;
                }
            }
            return many;
        }

        /** Prunes by the rows: how many nodes became leaves. */
        int trim(Table table) {
            countWrong(table);
            int many = 0;
            for (int at = nodes - 1; at >= 0; at--) {
                int below = 0;
                for (int j = 0; j < kids[at]; j++) {
                    below += wrongBelow[childOf(at, j)];
                }
                if (kids[at] > 0 && wrongHere[at] <= below) {
                    makeLeaf(at);
                    many++;
                }
                wrongBelow[at] = kids[at] > 0 ? below : wrongHere[at];
            }
            closeUp();
            finish();
            return many;
        }

        /** Of each node, how many of the rows that come there have another class than it. */
        private void countWrong(Table table) {
            for (int at = 0; at < nodes; at++) {
                wrongHere[at] = 0;
            }
            for (int i = 0; i < table.size; i++) {
                int at = 0;
                countWrongAt(at, table.classOf(i));
                for (int level = 0; level < MOST_DEPTH && kids[at] > 0; level++) {
                    at = childFor(at, table, i);
                    countWrongAt(at, table.classOf(i));
                }
            }
        }

        private void countWrongAt(int at, int c) {
            if (result[at] != c) {
                wrongHere[at]++;
            }
        }

        /** Drops what is below leaves; a node moves to a lower number or stays, so none is lost. */
        private void closeUp() {
            int[] moved = wrongHere;
            int to = 0;
            int past = 0;
            for (int at = 0; at < nodes; at++) {
                if (at >= past) {
                    past = kids[at] == 0 ? after[at] : at + 1;
                    moved[at] = to;
                    move(at, to);
                    parent[to] = parent[to] >= 0 ? moved[parent[to]] : NONE;
                    to++;
                }
            }
            nodes = to;
        }

        private void move(int at, int to) {
            attribute[to] = attribute[at];
            cut[to] = cut[at];
            byCut[to] = byCut[at];
            result[to] = result[at];
            amount[to] = amount[at];
            kids[to] = kids[at];
            depth[to] = depth[at];
            parent[to] = parent[at];
            place[to] = place[at];
            for (int c = 0; c < MOST_CLASSES; c++) {
                counts[to * MOST_CLASSES + c] = counts[at * MOST_CLASSES + c];
            }
        }
    }

    /** A split of rows: how many of each class come to each child. */
    private static final class Split {
        int attribute;
        int values;
        int cut;
        int children;
        int total;
        boolean stands;
        final int[] sizes = new int[MOST_VALUES];
        final int[] counts = new int[MOST_VALUES * MOST_CLASSES];
        /** What its children have of the sum by L: the less, the greater the gain. */
        long weight;
        long squares;
        long divisor;

        void open(int k, int itsValues, int number) {
            attribute = k;
            values = Math.min(Math.max(itsValues, 0), MOST_VALUES);
            cut = number;
            children = values == 0 ? 2 : values;
            total = 0;
            stands = false;
            for (int j = 0; j < MOST_VALUES; j++) {
                sizes[j] = 0;
            }
            for (int i = 0; i < MOST_VALUES * MOST_CLASSES; i++) {
                counts[i] = 0;
            }
        }

        int branch(Table table, int i) {
            int number = table.cell(i, attribute);
            if (values == 0) {
                return number <= cut ? 0 : 1;
            }
            return number;
        }

        void take(int j, int c) {
            if (j >= 0 && j < children && c >= 0 && c < MOST_CLASSES) {
                sizes[j]++;
                counts[j * MOST_CLASSES + c]++;
                total++;
            }
        }

        /** A row goes over from the child above the cut to the other one. */
        void shift(int c) {
            if (c >= 0 && c < MOST_CLASSES) {
                sizes[0]++;
                counts[c]++;
                sizes[1]--;
                counts[MOST_CLASSES + c]--;
            }
        }

        boolean mayBe(int least) {
            int large = 0;
            for (int j = 0; j < children; j++) {
                if (sizes[j] >= least) {
                    large++;
                }
            }
            return large >= 2;
        }

        void copy(Split other) {
            attribute = other.attribute;
            values = other.values;
            cut = other.cut;
            children = other.children;
            total = other.total;
            stands = other.stands;
            weight = other.weight;
            squares = other.squares;
            divisor = other.divisor;
            System.arraycopy(other.sizes, 0, sizes, 0, MOST_VALUES);
            System.arraycopy(other.counts, 0, counts, 0, MOST_VALUES * MOST_CLASSES);
        }

        /** The sum of its squares as one fraction; eight children of 25 rows keep both parts far within a long. */
        void addSquares() {
            squares = 0;
            divisor = 1;
            for (int j = 0; j < children; j++) {
                long own = 0;
                for (int c = 0; c < MOST_CLASSES; c++) {
                    long many = counts[j * MOST_CLASSES + c];
                    own += many * many;
                }
                if (sizes[j] > 0) {
                    squares = squares * sizes[j] + own * divisor;
                    divisor = divisor * sizes[j];
                }
            }
        }
    }

    /** Compares gains as the real numbers that they are: as products of whole numbers, where L leaves a doubt. */
    private static final class Scale {
        private static final int SHIFT = 30;
        private static final int STEPS = 16;
        private static final int MOST_STEPS = 200;

        private final int[] logs = new int[MOST_TRAINING + 1];
        /** The least prime factor of each number. */
        private final int[] factor = new int[MOST_TRAINING + 1];
        /** How often each number is a factor of a quotient; below 0: of its divisor. */
        private final int[] power = new int[MOST_TRAINING + 1];
        private final Product above = new Product();
        private final Product below = new Product();

        Scale() {
            for (int x = 1; x <= MOST_TRAINING; x++) {
                logs[x] = logOf(x);
                factor[x] = factorOf(x);
            }
        }

        private static int logOf(int x) {
            int e = 0;
            while (e < SHIFT && (2 << e) <= x) {
                e++;
            }
            long m = ((long) x << SHIFT) >> e;
            int l = e;
            for (int i = 0; i < STEPS; i++) {
                l = 2 * l;
                m = (m * m) >> SHIFT;
                if (m >= (2L << SHIFT)) {
                    l++;
                    m = m >> 1;
                }
            }
            return l;
        }

        private static int factorOf(int x) {
            for (int p = 2; p * p <= x; p++) {
                if (x % p == 0) {
                    return p;
                }
            }
            return x;
        }

        private long timesLog(int x) {
            return x > 0 && x <= MOST_TRAINING ? (long) x * logs[x] : 0;
        }

        void weigh(Split split) {
            long weight = 0;
            for (int j = 0; j < split.children; j++) {
                weight += timesLog(split.sizes[j]);
                for (int c = 0; c < MOST_CLASSES; c++) {
                    weight -= timesLog(split.counts[j * MOST_CLASSES + c]);
                }
            }
            split.weight = weight;
        }

        long gainOf(Split split) {
            long whole = timesLog(split.total);
            for (int c = 0; c < MOST_CLASSES; c++) {
                int many = 0;
                for (int j = 0; j < split.children; j++) {
                    many += split.counts[j * MOST_CLASSES + c];
                }
                whole -= timesLog(many);
            }
            return whole - split.weight;
        }

        long widthOf(Split split) {
            long width = timesLog(split.total);
            for (int j = 0; j < split.children; j++) {
                width -= timesLog(split.sizes[j]);
            }
            return width;
        }

        /**
         * 1, 0, -1, as the first of two splits of the same rows is better, as good, worse in a mode that does not look
         * at ratios. L is less than 2 below the logarithm times 2^16, so the weight of a split is less than twice its
         * rows beside the truth.
         */
        int order(int mode, Split a, Split b) {
            if (mode == MODE_SQUARES) {
                return orderOfSquares(a, b);
            }
            long doubt = 2L * a.total + 2L * b.total;
            if (b.weight - a.weight > doubt) {
                return 1;
            }
            if (a.weight - b.weight > doubt) {
                return -1;
            }
            clearPowers();
            addPowers(b, 1);
            addPowers(a, -1);
            return sign();
        }

        /** Whether the gain of a split is not below the mean of the gains of those that stand. */
        boolean isUpToMean(Split split, Split[] all) {
            clearPowers();
            int many = 0;
            for (int k = 0; k < all.length; k++) {
                Split other = all[k];
                if (other != null && other.stands) {
                    addPowers(other, 1);
                    many++;
                }
            }
            addPowers(split, -many);
            return sign() >= 0;
        }

        /** Of what both have by L: gain through width. */
        int orderOfRatios(Split a, Split b) {
            return Long.compare(gainOf(a) * widthOf(b), gainOf(b) * widthOf(a));
        }

        /** Whole parts first, then what is left, turned upside down: so no product can leave the room of a long. */
        private static int orderOfSquares(Split a, Split b) {
            long top = a.squares;
            long bottom = a.divisor;
            long otherTop = b.squares;
            long otherBottom = b.divisor;
            for (int i = 0; i < MOST_STEPS && bottom > 0 && otherBottom > 0; i++) {
                long whole = top / bottom;
                long otherWhole = otherTop / otherBottom;
                if (whole != otherWhole) {
                    return Long.compare(whole, otherWhole);
                }
                long rest = top - whole * bottom;
                long otherRest = otherTop - otherWhole * otherBottom;
                if (rest == 0 || otherRest == 0) {
                    return Long.compare(rest, otherRest);
                }
                top = otherBottom;
                otherTop = bottom;
                bottom = otherRest;
                otherBottom = rest;
            }
            return 0;
        }

        private void clearPowers() {
            for (int x = 0; x <= MOST_TRAINING; x++) {
                power[x] = 0;
            }
        }

        private void addPowers(Split split, int times) {
            for (int j = 0; j < split.children; j++) {
                addPower(split.sizes[j], times);
                for (int c = 0; c < MOST_CLASSES; c++) {
                    addPower(split.counts[j * MOST_CLASSES + c], -times);
                }
            }
        }

        private void addPower(int x, int times) {
            if (x > 0 && x <= MOST_TRAINING) {
                power[x] += x * times;
            }
        }

        /** 1, 0, -1, as the product of all numbers by their powers is above, the same as, below 1. */
        private int sign() {
            long sum = 0;
            long doubt = 0;
            for (int x = 2; x <= MOST_TRAINING; x++) {
                sum += (long) power[x] * logs[x];
                doubt += 2L * Math.abs(power[x]);
            }
            if (sum > doubt || -sum > doubt) {
                return sum > 0 ? 1 : -1;
            }
            above.begin();
            below.begin();
            for (int x = MOST_TRAINING; x >= 2; x--) {
                int p = factor[x];
                if (p > 1 && p < x) {
                    power[p] += power[x];
                    power[x / p] += power[x];
                } else if (power[x] > 0) {
                    above.raise(x, power[x]);
                } else {
                    below.raise(x, -power[x]);
                }
            }
            return above.order(below);
        }
    }

    /** A whole number, as long as a product of the powers of 200 rows by eight attributes can be. */
    private static final class Product {
        private static final int BITS = 31;
        private static final long MASK = (1L << BITS) - 1;
        private static final int MOST_LIMBS = 900;
        private static final int MOST_PIECE = 1 << 22;

        private final int[] limbs = new int[MOST_LIMBS];
        private int used;

        void begin() {
            limbs[0] = 1;
            used = 1;
        }

        /** Several factors go into one piece first, so that the long number is gone through less often. */
        void raise(int base, int times) {
            long piece = 1;
            for (int i = 0; i < times; i++) {
                piece *= base;
                if (piece >= MOST_PIECE || i == times - 1) {
                    long carry = 0;
                    for (int at = 0; at < used; at++) {
                        long sum = limbs[at] * piece + carry;
                        limbs[at] = (int) (sum & MASK);
                        carry = sum >>> BITS;
                    }
                    if (carry > 0 && used < MOST_LIMBS) {
                        limbs[used] = (int) carry;
                        used++;
                    }
                    piece = 1;
                }
            }
        }

        int order(Product other) {
            if (used != other.used) {
                return used > other.used ? 1 : -1;
            }
            for (int at = used - 1; at >= 0; at--) {
                if (limbs[at] != other.limbs[at]) {
                    return limbs[at] > other.limbs[at] ? 1 : -1;
                }
            }
            return 0;
        }
    }

    /** Grows trees from rows of a table; those of one node lie together in a stretch of its list. */
    private static final class Grower {
        private static final int MOST_WAITING = 512;

        private final Scale scale;
        private final int[] rows = new int[MOST_TRAINING];
        private final int[] parted = new int[MOST_TRAINING];
        /** For each measured attribute the rows by its numbers. */
        private final int[] sorted = new int[MOST_ATTRIBUTES * MOST_TRAINING];
        /** To which node a row came last. */
        private final int[] mark = new int[MOST_TRAINING];
        private final int[] parents = new int[MOST_WAITING];
        private final int[] places = new int[MOST_WAITING];
        private final int[] starts = new int[MOST_WAITING];
        private final int[] stops = new int[MOST_WAITING];
        private final Split trial = new Split();
        /** For each attribute its best split of the node at hand. */
        private final Split[] best = new Split[MOST_ATTRIBUTES];
        private int waiting;
        private int used;
        private int mode;
        private int least;
        private int depth;
        private final Table table;
        private Names names;
        private Tree tree;

        Grower(Scale scale, Table table, Names names, Tree tree) {
            this.scale = scale;
            this.table = table;
            this.names = names;
            this.tree = tree;
            for (int k = 0; k < MOST_ATTRIBUTES; k++) {
                best[k] = new Split();
            }
        }

        void aim(int itsMode, int itsLeast, int itsDepth) {
            mode = itsMode;
            least = itsLeast;
            depth = itsDepth;
        }

        /** Takes those rows whose number modulo k is not f. */
        void gather(int k, int f) {
            used = 0;
            for (int i = 0; i < table.size && i < MOST_TRAINING; i++) {
                mark[i] = NONE;
                if (k > 0 && i % k != f) {
                    rows[used] = i;
                    used++;
                }
            }
        }

        void build(Names itsNames, Tree into) {
            names = itsNames;
            tree = into;
            into.wipe();
            sortRows();
            waiting = 0;
            push(NONE, 0, 0, used);
            for (int i = 0; i < MOST_NODES && waiting > 0; i++) {
                waiting--;
                int start = starts[waiting];
                int stop = stops[waiting];
                int at = into.add(parents[waiting], places[waiting]);
                if (at != NONE && !isLeaf(at, start, stop)) {
                    findSplits(at, start, stop);
                    Split split = mode == MODE_RATIO ? chooseByRatio() : chooseBest();
                    if (split != null) {
                        into.fork(at, split.attribute, split.values, split.cut);
                        part(at, split, start, stop);
                    }
                }
            }
            into.finish();
        }

        private void push(int parent, int place, int start, int stop) {
            if (waiting < MOST_WAITING) {
                parents[waiting] = parent;
                places[waiting] = place;
                starts[waiting] = start;
                stops[waiting] = stop;
                waiting++;
            }
        }

        private void sortRows() {
            for (int k = 0; k < names.attributes; k++) {
                if (names.valuesOf(k) == 0) {
                    sortBy(k);
                }
            }
        }

        private void sortBy(int k) {
            int base = k * MOST_TRAINING;
            for (int i = 0; i < used; i++) {
                int row = rows[i];
                int number = table.cell(row, k);
                int at = i;
                while (at > 0 && table.cell(sorted[base + at - 1], k) > number) {
                    sorted[base + at] = sorted[base + at - 1];
                    at--;
                }
                sorted[base + at] = row;
            }
        }

        /** Counts the rows of a node that was just made; true if no split is looked for there. */
        private boolean isLeaf(int at, int start, int stop) {
            for (int i = start; i < stop; i++) {
                mark[rows[i]] = at;
                tree.note(at, table.classOf(rows[i]));
            }
            int c = tree.commonest(at);
            tree.result[at] = c;
            return tree.counts[at * MOST_CLASSES + c] == stop - start || tree.depth[at] >= depth;
        }

        private void findSplits(int at, int start, int stop) {
            for (int k = 0; k < MOST_ATTRIBUTES; k++) {
                Split own = best[k];
                if (own != null) {
                    own.stands = false;
                    if (names.valuesOf(k) == 0) {
                        tryCuts(own, k, at, start, stop);
                    } else if (names.valuesOf(k) > 0) {
                        tryValues(own, k, start, stop);
                    }
                }
            }
        }

        private void tryValues(Split own, int k, int start, int stop) {
            trial.open(k, names.valuesOf(k), 0);
            for (int i = start; i < stop; i++) {
                trial.take(trial.branch(table, rows[i]), table.classOf(rows[i]));
            }
            offer(own);
        }

        /** A cut at the greatest number leaves a child without rows, so it never may be and is not tried. */
        private void tryCuts(Split own, int k, int at, int start, int stop) {
            trial.open(k, 0, 0);
            for (int i = start; i < stop; i++) {
                trial.take(1, table.classOf(rows[i]));
            }
            int base = k * MOST_TRAINING;
            for (int i = 0; i < used; i++) {
                int row = sorted[base + i];
                if (mark[row] == at) {
                    int number = table.cell(row, k);
                    if (trial.sizes[0] > 0 && number != trial.cut) {
                        offer(own);
                    }
                    trial.cut = number;
                    trial.shift(table.classOf(row));
                }
            }
        }

        private void offer(Split own) {
            if (!trial.mayBe(least)) {
                return;
            }
            if (mode == MODE_SQUARES) {
                trial.addSquares();
            } else {
                scale.weigh(trial);
            }
            if (!own.stands || scale.order(mode, trial, own) > 0) {
                own.copy(trial);
                own.stands = true;
            }
        }

        private Split chooseBest() {
            Split chosen = null;
            for (int k = 0; k < MOST_ATTRIBUTES; k++) {
                Split own = best[k];
                if (own != null && own.stands && (chosen == null || scale.order(mode, own, chosen) > 0)) {
                    chosen = own;
                }
            }
            return chosen;
        }

        private Split chooseByRatio() {
            Split chosen = null;
            for (int k = 0; k < MOST_ATTRIBUTES; k++) {
                Split own = best[k];
                if (own != null && own.stands && scale.isUpToMean(own, best)
                        && (chosen == null || scale.orderOfRatios(own, chosen) > 0)) {
                    chosen = own;
                }
            }
            return chosen;
        }

        /** The last child waits undermost, so that the first one is numbered next. */
        private void part(int at, Split split, int start, int stop) {
            int to = 0;
            for (int j = 0; j < split.children; j++) {
                for (int i = start; i < stop; i++) {
                    if (split.branch(table, rows[i]) == j) {
                        parted[to] = rows[i];
                        to++;
                    }
                }
            }
            for (int i = 0; i < to; i++) {
                rows[start + i] = parted[i];
            }
            int end = stop;
            for (int j = split.children - 1; j >= 0; j--) {
                push(at, j, end - split.sizes[j], end);
                end -= split.sizes[j];
            }
        }
    }

    /** Rules made of a tree; their conditions lie one behind another. */
    private static final class Rules {
        private static final int MOST_CONDITIONS = MOST_TRAINING * MOST_DEPTH;

        final int[] attribute = new int[MOST_CONDITIONS];
        final int[] sort = new int[MOST_CONDITIONS];
        final int[] bound = new int[MOST_CONDITIONS];
        final int[] start = new int[MOST_TRAINING];
        final int[] size = new int[MOST_TRAINING];
        final int[] ranked = new int[MOST_TRAINING];
        private final int[] result = new int[MOST_TRAINING];
        private final int[] covered = new int[MOST_TRAINING];
        private final int[] right = new int[MOST_TRAINING];
        /** Of each row how many conditions of the rule at hand do not hold, and the sum of their numbers. */
        private final int[] misses = new int[MOST_TRAINING];
        private final int[] missed = new int[MOST_TRAINING];
        private final int[] coveredWithout = new int[MOST_DEPTH];
        private final int[] rightWithout = new int[MOST_DEPTH];
        private final boolean[] gone = new boolean[MOST_DEPTH];
        private final int[] arrived = new int[MOST_NODES];
        int many;
        boolean stand;
        int otherwise;

        void drop() {
            many = 0;
            stand = false;
            otherwise = 0;
        }

        void make(Tree tree, Table table) {
            drop();
            for (int at = 0; at < tree.nodes; at++) {
                arrived[at] = 0;
            }
            for (int i = 0; i < table.size; i++) {
                arrived[tree.leafOf(table, i)]++;
            }
            for (int at = 0; at < tree.nodes; at++) {
                if (arrived[at] > 0 && many < MOST_TRAINING) {
                    addRule(tree, at, table);
                }
            }
            rank();
            otherwise = commonestLeft(table);
            stand = true;
        }

        private void addRule(Tree tree, int leaf, Table table) {
            int r = many;
            start[r] = r == 0 ? 0 : start[r - 1] + size[r - 1];
            size[r] = Math.min(tree.depth[leaf], MOST_DEPTH);
            result[r] = tree.result[leaf];
            int at = leaf;
            for (int i = size[r] - 1; i >= 0 && tree.parent[at] >= 0; i--) {
                int up = tree.parent[at];
                setCondition(start[r] + i, tree, up, tree.place[at]);
                at = up;
            }
            simplify(r, table);
            if (!isTold(r)) {
                many++;
            }
        }

        private void setCondition(int i, Tree tree, int at, int child) {
            attribute[i] = tree.attribute[at];
            if (tree.byCut[at]) {
                sort[i] = child == 0 ? AT_MOST : ABOVE;
                bound[i] = tree.cut[at];
            } else {
                sort[i] = EQUAL;
                bound[i] = child;
            }
        }

        private boolean holds(int i, Table table, int row) {
            int number = table.cell(row, attribute[i]);
            if (sort[i] == EQUAL) {
                return number == bound[i];
            }
            return sort[i] == AT_MOST ? number <= bound[i] : number > bound[i];
        }

        private boolean covers(int r, Table table, int row) {
            for (int i = 0; i < size[r]; i++) {
                if (!holds(start[r] + i, table, row)) {
                    return false;
                }
            }
            return true;
        }

        private void simplify(int r, Table table) {
            countMisses(r, table);
            for (int step = 0; step < MOST_DEPTH; step++) {
                countWithout(r, table);
                int i = needless(r);
                if (i == NONE) {
                    break;
                }
                release(r, i, table);
            }
            closeUp(r);
        }

        private void countMisses(int r, Table table) {
            covered[r] = 0;
            right[r] = 0;
            for (int i = 0; i < size[r]; i++) {
                gone[i] = false;
            }
            for (int row = 0; row < table.size; row++) {
                misses[row] = 0;
                missed[row] = 0;
                for (int i = 0; i < size[r]; i++) {
                    if (!holds(start[r] + i, table, row)) {
                        misses[row]++;
                        missed[row] += i;
                    }
                }
                if (misses[row] == 0) {
                    covered[r]++;
                    right[r] += table.classOf(row) == result[r] ? 1 : 0;
                }
            }
        }

        /** Without a condition those rows come in of which it alone does not hold. */
        private void countWithout(int r, Table table) {
            for (int i = 0; i < size[r]; i++) {
                coveredWithout[i] = covered[r];
                rightWithout[i] = right[r];
            }
            for (int row = 0; row < table.size; row++) {
                int i = missed[row];
                if (misses[row] == 1 && i >= 0 && i < size[r]) {
                    coveredWithout[i]++;
                    rightWithout[i] += table.classOf(row) == result[r] ? 1 : 0;
                }
            }
        }

        /** The condition without which the worth is not less, and greatest; NONE if there is none. */
        private int needless(int r) {
            int best = NONE;
            int k = covered[r];
            int h = right[r];
            for (int i = 0; i < size[r]; i++) {
                int order = gone[i] ? -1 : orderOfWorths(rightWithout[i], coveredWithout[i], h, k);
                if (order > 0 || order == 0 && best == NONE) {
                    best = i;
                    k = coveredWithout[i];
                    h = rightWithout[i];
                }
            }
            return best;
        }

        private static int orderOfWorths(int h, int k, int otherH, int otherK) {
            return Integer.compare((h + 1) * (otherK + 2), (otherH + 1) * (k + 2));
        }

        private void release(int r, int i, Table table) {
            gone[i] = true;
            covered[r] = coveredWithout[i];
            right[r] = rightWithout[i];
            for (int row = 0; row < table.size; row++) {
                if (!holds(start[r] + i, table, row)) {
                    misses[row]--;
                    missed[row] -= i;
                }
            }
        }

        private void closeUp(int r) {
            int to = start[r];
            for (int i = 0; i < size[r]; i++) {
                if (!gone[i]) {
                    attribute[to] = attribute[start[r] + i];
                    sort[to] = sort[start[r] + i];
                    bound[to] = bound[start[r] + i];
                    to++;
                }
            }
            size[r] = to - start[r];
        }

        private boolean isTold(int r) {
            for (int other = 0; other < r; other++) {
                if (result[other] == result[r] && size[other] == size[r] && hasSame(other, r)) {
                    return true;
                }
            }
            return false;
        }

        private boolean hasSame(int a, int b) {
            for (int i = 0; i < size[a]; i++) {
                int x = start[a] + i;
                int y = start[b] + i;
                if (attribute[x] != attribute[y] || sort[x] != sort[y] || bound[x] != bound[y]) {
                    return false;
                }
            }
            return true;
        }

        private void rank() {
            for (int r = 0; r < many; r++) {
                int at = r;
                while (at > 0 && isAhead(r, ranked[at - 1])) {
                    ranked[at] = ranked[at - 1];
                    at--;
                }
                ranked[at] = r;
            }
        }

        private boolean isAhead(int r, int other) {
            int order = orderOfWorths(right[r], covered[r], right[other], covered[other]);
            return order > 0 || order == 0 && covered[r] > covered[other];
        }

        private int firstFor(Table table, int row) {
            for (int i = 0; i < many; i++) {
                if (covers(ranked[i], table, row)) {
                    return ranked[i];
                }
            }
            return NONE;
        }

        int decisionOn(Table table, int row) {
            int r = firstFor(table, row);
            return r == NONE ? otherwise : result[r];
        }

        private int commonestLeft(Table table) {
            int[] left = new int[MOST_CLASSES];
            int[] all = new int[MOST_CLASSES];
            int uncovered = 0;
            for (int row = 0; row < table.size; row++) {
                int c = table.classOf(row);
                if (c >= 0 && c < MOST_CLASSES) {
                    all[c]++;
                    if (firstFor(table, row) == NONE) {
                        left[c]++;
                        uncovered++;
                    }
                }
            }
            int[] asked = uncovered > 0 ? left : all;
            int best = 0;
            for (int c = 1; c < MOST_CLASSES; c++) {
                best = asked[c] > asked[best] ? c : best;
            }
            return best;
        }

        int plain(int r, int what) {
            switch (what) {
                case 0:
                    return result[r];
                case 1:
                    return size[r];
                case 2:
                    return covered[r];
                default:
                    return right[r];
            }
        }
    }

    /** Writes texts into the result. */
    private static final class Writer {
        private static final int MOST_WHOLE = 1000000000;

        private final Bytes result;

        Writer(Bytes result) {
            this.result = result;
        }

        private void gap() {
            if (result.told > 0) {
                result.add(' ');
            }
        }

        private void word(String word) {
            gap();
            for (int i = 0; i < word.length(); i++) {
                result.add(word.charAt(i));
            }
        }

        private void nameIn(Names names, int slot) {
            gap();
            for (int i = 0; i < names.lengthOf(slot); i++) {
                result.add(names.letterOf(slot, i));
            }
        }

        private void number(int thousandths) {
            gap();
            if (thousandths < 0) {
                result.add('-');
            }
            int size = Math.abs(thousandths);
            whole(size / 1000);
            int rest = size % 1000;
            if (rest > 0) {
                result.add('.');
            }
            for (int worth = 100; worth > 0 && rest > 0; worth /= 10) {
                result.add('0' + rest / worth);
                rest = rest % worth;
            }
        }

        private void whole(int number) {
            boolean begun = false;
            for (int worth = MOST_WHOLE; worth > 0; worth /= 10) {
                int digit = number / worth % 10;
                begun = begun || digit > 0 || worth == 1;
                if (begun) {
                    result.add('0' + digit);
                }
            }
        }

        void writeTree(Names names, Tree tree) {
            result.shorten(0);
            for (int at = 0; at < tree.nodes; at++) {
                writeLabel(names, tree, at);
                if (tree.kids[at] == 0) {
                    word("is");
                    nameIn(names, tree.result[at]);
                    closeForks(tree, at);
                } else {
                    word("by");
                    nameIn(names, Names.attributeSlot(tree.attribute[at]));
                    word(tree.byCut[at] ? "<=" : "{");
                    if (tree.byCut[at]) {
                        number(tree.cut[at]);
                    }
                }
            }
        }

        private void writeLabel(Names names, Tree tree, int at) {
            int up = tree.parent[at];
            if (up < 0) {
                return;
            }
            if (!tree.byCut[up]) {
                nameIn(names, Names.valueSlot(tree.attribute[up], tree.place[at]));
                result.add(':');
            } else if (tree.place[at] == 1) {
                word("else");
            }
        }

        private void closeForks(Tree tree, int leaf) {
            int at = leaf;
            for (int level = 0; level < MOST_DEPTH && tree.parent[at] >= 0; level++) {
                int up = tree.parent[at];
                if (tree.place[at] + 1 < tree.kids[up]) {
                    return;
                }
                if (!tree.byCut[up]) {
                    word("}");
                }
                at = up;
            }
        }

        void writeRules(Names names, Rules rules) {
            result.shorten(0);
            for (int i = 0; i < rules.many; i++) {
                int r = rules.ranked[i];
                for (int j = 0; j < rules.size[r]; j++) {
                    word(j == 0 ? "if" : "and");
                    writeCondition(names, rules, rules.start[r] + j);
                }
                word("then");
                nameIn(names, rules.plain(r, 0));
                result.add(';');
            }
            word("else");
            nameIn(names, rules.otherwise);
            result.add(';');
        }

        private void writeCondition(Names names, Rules rules, int at) {
            int k = rules.attribute[at];
            nameIn(names, Names.attributeSlot(k));
            if (rules.sort[at] == EQUAL) {
                word("=");
                nameIn(names, Names.valueSlot(k, rules.bound[at]));
            } else {
                word(rules.sort[at] == AT_MOST ? "<=" : ">");
                number(rules.bound[at]);
            }
        }
    }
}
