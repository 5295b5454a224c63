import java.math.BigInteger;
import java.util.ArrayList;
import java.util.Arrays;
import java.util.Collections;
import java.util.List;
import java.util.NoSuchElementException;
import java.util.regex.Matcher;
import java.util.regex.Pattern;

/** The document once more, told as plainly as the Java library lets it be, without a thought of speed or room. */
final class Model {
    private static final int NONE = -1;

    // ---- state
    private String tape = "";
    private String result = "";
    private List<String> classes = new ArrayList<>();
    private List<String> attributes = new ArrayList<>();
    private List<List<String>> values = new ArrayList<>();
    private final List<List<int[]>> tables = Arrays.asList(new ArrayList<>(), new ArrayList<>());
    private Node root;
    private List<Rule> rules;
    private int otherwise;
    private int fault;
    private int faultAt = NONE;

    // ---- what the state is made of
    private static final class Node {
        int attribute = NONE;
        int cut;
        int clazz;
        int depth;
        Node parent;
        int[] counts;
        List<Node> children = new ArrayList<>();
        List<int[]> rows = new ArrayList<>();

        int total() {
            return rows.size();
        }

        void list(List<Node> into) {
            into.add(this);
            for (Node child : children) {
                child.list(into);
            }
        }
    }

    private static final class Rule {
        List<List<Integer>> conditions = new ArrayList<>();
        int clazz;
        int k;
        int h;
    }

    private static final class Fault extends RuntimeException {
        private static final long serialVersionUID = 1L;
        final int kind;
        final int at;

        Fault(int kind, int at) {
            this.kind = kind;
            this.at = at;
        }
    }

    private boolean measured(int k) {
        return values.get(k).isEmpty();
    }

    // ---- the tape
    int feed(int... numbers) {
        StringBuilder fed = new StringBuilder(tape);
        for (int number : numbers) {
            for (int shift = 24; shift >= 0; shift -= 8) {
                fed.append((char) (number >>> shift & 255));
            }
        }
        if (fed.length() > 4000) {
            return NONE;
        }
        tape = fed.toString();
        return tape.length();
    }

    boolean end(int n) {
        if (n < 0 || n > tape.length()) {
            return false;
        }
        tape = tape.substring(0, n);
        return true;
    }

    int again() {
        tape = result.substring(0, Math.min(4000, result.length()));
        return tape.length();
    }

    int fault(int what) {
        return what == 0 ? fault : what == 1 ? faultAt : NONE;
    }

    int letter(int i) {
        return i < 0 || i >= result.length() ? NONE : result.charAt(i);
    }

    // ---- tokens: kind w, n, e (end), ? (none), or a sign
    private static final class Token {
        String kind;
        String text = "";
        int at;
    }

    private static final Pattern PIECE = Pattern.compile("([a-z][a-z0-9_]*)|(-?[0-9]+(\\.[0-9]+)?)|(<=|[,:;{}])");

    private List<Token> tokens;
    private int cursor;

    private void scan(String text) {
        tokens = new ArrayList<>();
        cursor = 0;
        int at = 0;
        while (true) {
            while (at < text.length() && (text.charAt(at) == 10 || text.charAt(at) == 32)) {
                at++;
            }
            Token token = new Token();
            token.at = at;
            tokens.add(token);
            if (at == text.length()) {
                token.kind = "e";
                return;
            }
            Matcher m = PIECE.matcher(text).region(at, text.length());
            if (!m.lookingAt()) {
                token.kind = "?";
                at++;
                continue;
            }
            token.text = m.group();
            at = m.end();
            if (m.group(1) != null) {
                token.kind = token.text.length() > 12 ? "?" : "w";
            } else if (m.group(2) != null) {
                token.kind = token.text.matches("-?[0-9]{1,7}(\\.[0-9]{1,3})?") ? "n" : "?";
            } else {
                token.kind = token.text;
            }
        }
    }

    private Token now() {
        return tokens.get(cursor);
    }

    private Fault wrong(int kind) {
        return new Fault(kind, now().at);
    }

    private String need(String kind) {
        if (!now().kind.equals(kind)) {
            throw wrong(1);
        }
        return now().text;
    }

    private void take(String kind) {
        need(kind);
        cursor++;
    }

    private boolean word(String text) {
        return now().kind.equals("w") && now().text.equals(text);
    }

    private void takeWord(String text) {
        if (!word(text)) {
            throw wrong(1);
        }
        cursor++;
    }

    private interface Reading {
        void read();
    }

    private boolean reads(Reading reading) {
        scan(tape);
        tape = "";
        fault = 0;
        faultAt = NONE;
        try {
            reading.read();
            return true;
        } catch (Fault f) {
            fault = f.kind;
            faultAt = f.at;
            return false;
        }
    }

    // ---- the texts
    private void newName(List<String> list, int most) {
        String name = need("w");
        if (Arrays.asList("classes", "measured", "is", "by", "else").contains(name) || list.contains(name)) {
            throw wrong(2);
        }
        if (list.size() == most) {
            throw wrong(4);
        }
        list.add(name);
        cursor++;
    }

    private void namesList(List<String> list, int most) {
        newName(list, most);
        take(",");
        newName(list, most);
        while (now().kind.equals(",")) {
            cursor++;
            newName(list, most);
        }
        take(";");
    }

    int names() {
        List<String> c = new ArrayList<>();
        List<String> a = new ArrayList<>();
        List<List<String>> v = new ArrayList<>();
        boolean good = reads(() -> {
            takeWord("classes");
            namesList(c, 6);
            do {
                newName(a, 8);
                take(":");
                List<String> own = new ArrayList<>();
                if (word("measured")) {
                    cursor++;
                    take(";");
                } else {
                    namesList(own, 8);
                }
                v.add(own);
            } while (!now().kind.equals("e"));
        });
        if (!good) {
            return NONE;
        }
        classes = c;
        attributes = a;
        values = v;
        tables.get(0).clear();
        tables.get(1).clear();
        root = null;
        rules = null;
        return a.size();
    }

    private int known(List<String> list) {
        int i = list.indexOf(need("w"));
        if (i < 0) {
            throw wrong(2);
        }
        return i;
    }

    private int thousandths() {
        java.math.BigDecimal number = new java.math.BigDecimal(need("n")).movePointRight(3);
        long size = number.longValueExact();
        if (Math.abs(size) > 1000000000L) {
            throw wrong(3);
        }
        return (int) size;
    }

    private int cellOf(int k) {
        return measured(k) ? thousandths() : known(values.get(k));
    }

    int rows(int set) {
        needSet(set);
        if (attributes.isEmpty()) {
            throw new IllegalStateException();
        }
        List<int[]> more = new ArrayList<>();
        boolean good = reads(() -> {
            while (!now().kind.equals("e")) {
                int[] row = new int[attributes.size() + 1];
                for (int k = 0; k < attributes.size(); k++) {
                    row[k] = cellOf(k);
                    if (k == 0 && tables.get(set).size() + more.size() == (set == 0 ? 200 : 100)) {
                        throw wrong(4);
                    }
                    cursor++;
                    take(",");
                }
                row[attributes.size()] = known(classes);
                cursor++;
                take(";");
                more.add(row);
            }
        });
        if (!good) {
            return NONE;
        }
        tables.get(set).addAll(more);
        return tables.get(set).size();
    }

    private Node treeText(Node parent) {
        Node node = new Node();
        node.parent = parent;
        node.depth = parent == null ? 0 : parent.depth + 1;
        if (word("is")) {
            cursor++;
            node.clazz = known(classes);
            cursor++;
            return node;
        }
        if (word("by") && node.depth == 60) {
            throw wrong(4);
        }
        takeWord("by");
        node.attribute = known(attributes);
        cursor++;
        if (measured(node.attribute)) {
            take("<=");
            node.cut = thousandths();
            cursor++;
            node.children.add(treeText(node));
            takeWord("else");
            node.children.add(treeText(node));
            return node;
        }
        take("{");
        for (String value : values.get(node.attribute)) {
            if (!need("w").equals(value)) {
                throw wrong(2);
            }
            cursor++;
            take(":");
            node.children.add(treeText(node));
        }
        take("}");
        return node;
    }

    int tree() {
        if (attributes.isEmpty()) {
            throw new IllegalStateException();
        }
        Node[] read = new Node[1];
        boolean good = reads(() -> {
            read[0] = treeText(null);
            need("e");
        });
        rules = null;
        if (!good) {
            return NONE;
        }
        root = read[0];
        for (int[] row : tables.get(0)) {
            Node at = root;
            at.rows.add(row);
            while (!at.children.isEmpty()) {
                at = at.children.get(branch(at.attribute, at.cut, row));
                at.rows.add(row);
            }
        }
        for (Node node : nodes()) {
            if (!node.children.isEmpty()) {
                node.clazz = classOf(node);
            }
        }
        return nodes().size();
    }

    // ---- splits
    private int classOf(int[] row) {
        return row[attributes.size()];
    }

    private int[] countsOf(List<int[]> rows) {
        int[] counts = new int[classes.size()];
        for (int[] row : rows) {
            counts[classOf(row)]++;
        }
        return counts;
    }

    private int commonest(List<int[]> rows) {
        int[] counts = countsOf(rows);
        int best = 0;
        for (int c = 0; c < counts.length; c++) {
            best = counts[c] > counts[best] ? c : best;
        }
        return best;
    }

    private int classOf(Node node) {
        if (node.rows.isEmpty()) {
            return node.parent == null ? 0 : node.parent.clazz;
        }
        return commonest(node.rows);
    }

    private int branch(int k, int cut, int[] row) {
        return !measured(k) ? row[k] : row[k] <= cut ? 0 : 1;
    }

    private List<List<int[]>> parts(List<int[]> rows, int k, int cut) {
        List<List<int[]>> parts = new ArrayList<>();
        for (int j = 0; j < (measured(k) ? 2 : values.get(k).size()); j++) {
            parts.add(new ArrayList<>());
        }
        for (int[] row : rows) {
            parts.get(branch(k, cut, row)).add(row);
        }
        return parts;
    }

    private static BigInteger own(int x) {
        return BigInteger.valueOf(x).pow(x);
    }

    /** Two to the power of n times the gain, as a fraction. */
    private BigInteger[] twoToGain(List<int[]> rows, int k, int cut) {
        BigInteger top = own(rows.size());
        BigInteger bottom = BigInteger.ONE;
        for (int many : countsOf(rows)) {
            bottom = bottom.multiply(own(many));
        }
        for (List<int[]> part : parts(rows, k, cut)) {
            bottom = bottom.multiply(own(part.size()));
            for (int many : countsOf(part)) {
                top = top.multiply(own(many));
            }
        }
        return new BigInteger[] {top, bottom};
    }

    private static int order(BigInteger[] a, BigInteger[] b) {
        return a[0].multiply(b[1]).compareTo(b[0].multiply(a[1]));
    }

    private static BigInteger[] gini(List<List<int[]>> parts, Model model) {
        BigInteger[] sum = {BigInteger.ZERO, BigInteger.ONE};
        for (List<int[]> part : parts) {
            if (!part.isEmpty()) {
                BigInteger n = BigInteger.valueOf(part.size());
                BigInteger squares = BigInteger.ZERO;
                for (int many : model.countsOf(part)) {
                    squares = squares.add(BigInteger.valueOf((long) many * many));
                }
                sum[0] = sum[0].multiply(n).add(squares.multiply(sum[1]));
                sum[1] = sum[1].multiply(n);
            }
        }
        return sum;
    }

    static long logOf(int x) {
        BigInteger m = BigInteger.valueOf(x).shiftLeft(30).shiftRight(BigInteger.valueOf(x).bitLength() - 1);
        long l = BigInteger.valueOf(x).bitLength() - 1;
        for (int i = 0; i < 16; i++) {
            l = 2 * l;
            m = m.multiply(m).shiftRight(30);
            if (m.bitLength() > 31) {
                l++;
                m = m.shiftRight(1);
            }
        }
        return l;
    }

    private static long timesLog(int x) {
        return x == 0 ? 0 : x * logOf(x);
    }

    private long gainNumber(List<int[]> rows, int k, int cut) {
        long sum = timesLog(rows.size());
        for (int many : countsOf(rows)) {
            sum -= timesLog(many);
        }
        for (List<int[]> part : parts(rows, k, cut)) {
            sum -= timesLog(part.size());
            for (int many : countsOf(part)) {
                sum += timesLog(many);
            }
        }
        return sum;
    }

    private long widthNumber(List<int[]> rows, int k, int cut) {
        long sum = timesLog(rows.size());
        for (List<int[]> part : parts(rows, k, cut)) {
            sum -= timesLog(part.size());
        }
        return sum;
    }

    private List<int[]> splitsThatMayBe(List<int[]> rows, int least) {
        List<int[]> splits = new ArrayList<>();
        for (int k = 0; k < attributes.size(); k++) {
            List<Integer> cuts = new ArrayList<>();
            for (int[] row : rows) {
                int cut = measured(k) ? row[k] : 0;
                if (!cuts.contains(cut)) {
                    cuts.add(cut);
                }
            }
            Collections.sort(cuts);
            for (int cut : cuts) {
                int large = 0;
                for (List<int[]> part : parts(rows, k, cut)) {
                    large += part.size() >= least ? 1 : 0;
                }
                if (large >= 2) {
                    splits.add(new int[] {k, cut});
                }
            }
        }
        return splits;
    }

    private int[] split(List<int[]> rows, int mode, int least) {
        List<int[]> splits = splitsThatMayBe(rows, least);
        int[] best = null;
        if (mode != 1) {
            BigInteger[] most = null;
            for (int[] s : splits) {
                BigInteger[] own = mode == 0 ? twoToGain(rows, s[0], s[1]) : gini(parts(rows, s[0], s[1]), this);
                if (best == null || order(own, most) > 0) {
                    best = s;
                    most = own;
                }
            }
            return best;
        }
        List<int[]> each = new ArrayList<>();
        for (int k = 0; k < attributes.size(); k++) {
            int[] own = null;
            for (int[] s : splits) {
                if (s[0] == k && (own == null
                        || order(twoToGain(rows, k, s[1]), twoToGain(rows, k, own[1])) > 0)) {
                    own = s;
                }
            }
            if (own != null) {
                each.add(own);
            }
        }
        BigInteger[] product = {BigInteger.ONE, BigInteger.ONE};
        for (int[] s : each) {
            BigInteger[] own = twoToGain(rows, s[0], s[1]);
            product[0] = product[0].multiply(own[0]);
            product[1] = product[1].multiply(own[1]);
        }
        for (int[] s : each) {
            BigInteger[] own = twoToGain(rows, s[0], s[1]);
            BigInteger[] raised = {own[0].pow(each.size()), own[1].pow(each.size())};
            if (order(raised, product) < 0) {
                continue;
            }
            if (best == null || gainNumber(rows, s[0], s[1]) * widthNumber(rows, best[0], best[1])
                    > gainNumber(rows, best[0], best[1]) * widthNumber(rows, s[0], s[1])) {
                best = s;
            }
        }
        return best;
    }

    // ---- trees
    private Node grown(List<int[]> rows, Node parent, int mode, int least, int depth) {
        Node node = new Node();
        node.parent = parent;
        node.depth = parent == null ? 0 : parent.depth + 1;
        node.rows = new ArrayList<>(rows);
        node.clazz = classOf(node);
        boolean pure = true;
        for (int[] row : rows) {
            pure = pure && classOf(row) == classOf(rows.get(0));
        }
        int[] split = pure || node.depth == depth ? null : split(rows, mode, least);
        if (split != null) {
            node.attribute = split[0];
            node.cut = split[1];
            for (List<int[]> part : parts(rows, split[0], split[1])) {
                node.children.add(grown(part, node, mode, least, depth));
            }
        }
        return node;
    }

    private List<Node> nodes() {
        List<Node> list = new ArrayList<>();
        if (root != null) {
            root.list(list);
        }
        return list;
    }

    private void needManner(int mode, int least, int depth) {
        if (mode < 0 || mode > 2 || least < 1 || least > 20 || depth < 0 || depth > 60) {
            throw new IllegalArgumentException();
        }
    }

    int grow(int mode, int least, int depth) {
        needManner(mode, least, depth);
        if (tables.get(0).isEmpty()) {
            throw new IllegalStateException();
        }
        root = grown(tables.get(0), null, mode, least, depth);
        rules = null;
        return nodes().size();
    }

    int folds(int k, int mode, int least, int depth) {
        if (k < 2 || k > 10) {
            throw new IllegalArgumentException();
        }
        needManner(mode, least, depth);
        if (tables.get(0).size() < k) {
            throw new IllegalStateException();
        }
        int wrong = 0;
        for (int f = 0; f < k; f++) {
            List<int[]> in = new ArrayList<>();
            List<int[]> out = new ArrayList<>();
            for (int i = 0; i < tables.get(0).size(); i++) {
                (i % k == f ? out : in).add(tables.get(0).get(i));
            }
            Node tree = grown(in, null, mode, least, depth);
            for (int[] row : out) {
                wrong += leafOf(tree, row).clazz == classOf(row) ? 0 : 1;
            }
        }
        return wrong;
    }

    private Node leafOf(Node from, int[] row) {
        Node at = from;
        while (!at.children.isEmpty()) {
            at = at.children.get(branch(at.attribute, at.cut, row));
        }
        return at;
    }

    private boolean comesTo(Node node, int[] row) {
        Node at = root;
        while (at != node && !at.children.isEmpty()) {
            at = at.children.get(branch(at.attribute, at.cut, row));
        }
        return at == node;
    }

    private void needTree() {
        if (root == null) {
            throw new IllegalStateException();
        }
    }

    int prune() {
        needTree();
        rules = null;
        List<Node> list = nodes();
        Collections.reverse(list);
        int many = 0;
        for (Node node : list) {
            if (node.children.isEmpty()) {
                continue;
            }
            int here = 0;
            int below = 0;
            for (int[] row : tables.get(1)) {
                if (comesTo(node, row)) {
                    here += classOf(row) == node.clazz ? 0 : 1;
                    below += classOf(row) == leafOf(node, row).clazz ? 0 : 1;
                }
            }
            if (here <= below) {
                node.children.clear();
                node.attribute = NONE;
                node.cut = 0;
                many++;
            }
        }
        return many;
    }

    private Node nodeOf(int i) {
        needTree();
        if (i < 0 || i >= nodes().size()) {
            throw new NoSuchElementException();
        }
        return nodes().get(i);
    }

    int node(int i, int what) {
        Node node = nodeOf(i);
        if (what >= 10 && what < 10 + node.children.size()) {
            return nodes().indexOf(node.children.get(what - 10));
        }
        if (what >= 20 && what < 20 + classes.size()) {
            return countsOf(node.rows)[what - 20];
        }
        if (what < 0 || what > 5) {
            throw new NoSuchElementException();
        }
        return new int[] {node.attribute, node.cut, node.clazz, node.total(), node.children.size(), node.depth}[what];
    }

    private List<int[]> rowsAt(int i) {
        Node node = nodeOf(i);
        List<int[]> rows = new ArrayList<>();
        for (int[] row : tables.get(0)) {
            if (comesTo(node, row)) {
                rows.add(row);
            }
        }
        if (rows.isEmpty()) {
            throw new IllegalStateException();
        }
        return rows;
    }

    private void needAttribute(int k) {
        if (k < 0 || k >= attributes.size()) {
            throw new NoSuchElementException();
        }
    }

    int compare(int node, int a, int cutA, int b, int cutB) {
        List<int[]> rows = rowsAt(node);
        needAttribute(a);
        needAttribute(b);
        return order(twoToGain(rows, a, cutA), twoToGain(rows, b, cutB));
    }

    int gain(int node, int k, int cut, int what) {
        List<int[]> rows = rowsAt(node);
        needAttribute(k);
        if (what != 0 && what != 1) {
            throw new NoSuchElementException();
        }
        return (int) (what == 0 ? gainNumber(rows, k, cut) : widthNumber(rows, k, cut));
    }

    // ---- decisions
    private void needSet(int set) {
        if (set != 0 && set != 1) {
            throw new IllegalArgumentException();
        }
    }

    private void needBy(int by) {
        if (by != 0 && by != 1) {
            throw new IllegalArgumentException();
        }
        needTree();
        if (by == 1 && rules == null) {
            throw new IllegalStateException();
        }
    }

    private int decided(int by, int[] row) {
        if (by == 0) {
            return leafOf(root, row).clazz;
        }
        for (Rule rule : rules) {
            if (covers(rule.conditions, row)) {
                return rule.clazz;
            }
        }
        return otherwise;
    }

    int decide(int by) {
        needBy(by);
        int[] row = new int[attributes.size() + 1];
        boolean good = reads(() -> {
            for (int k = 0; k < attributes.size(); k++) {
                if (k > 0) {
                    take(",");
                }
                row[k] = cellOf(k);
                cursor++;
            }
            need("e");
        });
        return good ? decided(by, row) : NONE;
    }

    int tried(int set, int by, int c, int d) {
        needSet(set);
        needBy(by);
        int many = 0;
        for (int[] row : tables.get(set)) {
            many += (c == NONE || classOf(row) == c) && (d == NONE || decided(by, row) == d) ? 1 : 0;
        }
        return many;
    }

    int errors(int set, int by) {
        needSet(set);
        needBy(by);
        int many = 0;
        for (int[] row : tables.get(set)) {
            many += decided(by, row) != classOf(row) ? 1 : 0;
        }
        return many;
    }

    int clear(int set) {
        needSet(set);
        int many = tables.get(set).size();
        tables.get(set).clear();
        return many;
    }

    int row(int set, int i, int k) {
        needSet(set);
        if (i < 0 || i >= tables.get(set).size() || k < 0 || k > attributes.size()) {
            throw new NoSuchElementException();
        }
        return tables.get(set).get(i)[k];
    }

    // ---- rules
    private static boolean covers(List<List<Integer>> conditions, int[] row) {
        for (List<Integer> one : conditions) {
            int number = row[one.get(0)];
            boolean holds = one.get(1) == 0 ? number <= one.get(2)
                    : one.get(1) == 1 ? number > one.get(2) : number == one.get(2);
            if (!holds) {
                return false;
            }
        }
        return true;
    }

    /** h + 1 and k + 2 */
    private int[] worth(List<List<Integer>> conditions, int clazz) {
        int[] worth = {1, 2};
        for (int[] row : tables.get(0)) {
            if (covers(conditions, row)) {
                worth[1]++;
                worth[0] += classOf(row) == clazz ? 1 : 0;
            }
        }
        return worth;
    }

    private static int order(int[] a, int[] b) {
        return Integer.compare(a[0] * b[1], b[0] * a[1]);
    }

    int rules() {
        needTree();
        rules = new ArrayList<>();
        for (Node leaf : nodes()) {
            boolean reached = false;
            for (int[] row : tables.get(0)) {
                reached = reached || leafOf(root, row) == leaf;
            }
            if (leaf.children.isEmpty() && reached) {
                Rule rule = simplified(leaf);
                boolean told = false;
                for (Rule other : rules) {
                    told = told || other.clazz == rule.clazz && other.conditions.equals(rule.conditions);
                }
                if (!told) {
                    rules.add(rule);
                }
            }
        }
        rules.sort((a, b) -> {
            int order = order(new int[] {b.h + 1, b.k + 2}, new int[] {a.h + 1, a.k + 2});
            return order != 0 ? order : b.k - a.k;
        });
        List<int[]> left = new ArrayList<>(tables.get(0));
        for (Rule rule : rules) {
            left.removeIf(row -> covers(rule.conditions, row));
        }
        otherwise = commonest(left.isEmpty() ? tables.get(0) : left);
        return rules.size();
    }

    private Rule simplified(Node leaf) {
        Rule rule = new Rule();
        rule.clazz = leaf.clazz;
        for (Node at = leaf; at.parent != null; at = at.parent) {
            Node up = at.parent;
            int j = up.children.indexOf(at);
            rule.conditions.add(0, measured(up.attribute) ? Arrays.asList(up.attribute, j, up.cut)
                    : Arrays.asList(up.attribute, 2, j));
        }
        while (true) {
            int[] worth = worth(rule.conditions, rule.clazz);
            int best = NONE;
            int[] most = worth;
            for (int i = 0; i < rule.conditions.size(); i++) {
                List<List<Integer>> without = new ArrayList<>(rule.conditions);
                without.remove(i);
                int[] own = worth(without, rule.clazz);
                if (order(own, most) > 0 || best == NONE && order(own, most) == 0) {
                    best = i;
                    most = own;
                }
            }
            if (best == NONE) {
                rule.h = worth[0] - 1;
                rule.k = worth[1] - 2;
                return rule;
            }
            rule.conditions.remove(best);
        }
    }

    private Rule ruleOf(int i) {
        if (rules == null || i < 0 || i >= rules.size()) {
            throw new NoSuchElementException();
        }
        return rules.get(i);
    }

    int rule(int i, int what) {
        Rule rule = ruleOf(i);
        if (what < 0 || what > 3) {
            throw new NoSuchElementException();
        }
        return new int[] {rule.clazz, rule.conditions.size(), rule.k, rule.h}[what];
    }

    int condition(int i, int j, int what) {
        Rule rule = ruleOf(i);
        if (j < 0 || j >= rule.conditions.size() || what < 0 || what > 2) {
            throw new NoSuchElementException();
        }
        return rule.conditions.get(j).get(what);
    }

    // ---- writing
    private static String number(int thousandths) {
        return new java.math.BigDecimal(thousandths).movePointLeft(3).stripTrailingZeros().toPlainString();
    }

    private void treeOut(Node node, List<String> out) {
        if (node.children.isEmpty()) {
            out.addAll(Arrays.asList("is", classes.get(node.clazz)));
            return;
        }
        out.addAll(Arrays.asList("by", attributes.get(node.attribute)));
        if (measured(node.attribute)) {
            out.addAll(Arrays.asList("<=", number(node.cut)));
            treeOut(node.children.get(0), out);
            out.add("else");
            treeOut(node.children.get(1), out);
            return;
        }
        out.add("{");
        for (int j = 0; j < node.children.size(); j++) {
            out.addAll(Arrays.asList(values.get(node.attribute).get(j), ":"));
            treeOut(node.children.get(j), out);
        }
        out.add("}");
    }

    private void rulesOut(List<String> out) {
        for (Rule rule : rules) {
            String ahead = "if";
            for (List<Integer> one : rule.conditions) {
                out.addAll(Arrays.asList(ahead, attributes.get(one.get(0)), one.get(1) == 0 ? "<="
                        : one.get(1) == 1 ? ">" : "=", one.get(1) == 2 ? values.get(one.get(0)).get(one.get(2))
                        : number(one.get(2))));
                ahead = "and";
            }
            out.addAll(Arrays.asList("then", classes.get(rule.clazz), ";"));
        }
        out.addAll(Arrays.asList("else", classes.get(otherwise), ";"));
    }

    int write(int what) {
        if (what != 0 && what != 1) {
            throw new IllegalArgumentException();
        }
        needBy(what);
        List<String> out = new ArrayList<>();
        if (what == 0) {
            treeOut(root, out);
        } else {
            rulesOut(out);
        }
        String text = String.join(" ", out).replaceAll(" ([,:;])", "$1");
        result = text.substring(0, Math.min(6000, text.length()));
        return text.length();
    }

    int count(int what) {
        int leaves = 0;
        for (Node node : nodes()) {
            leaves += node.children.isEmpty() ? 1 : 0;
        }
        int[] counts = {classes.size(), attributes.size(), tables.get(0).size(), tables.get(1).size(), nodes().size(),
            rules == null ? 0 : rules.size(), rules == null ? NONE : otherwise, tape.length(), result.length(), leaves};
        if (what >= 0 && what <= 9) {
            return counts[what];
        }
        return what >= 10 && what < 10 + attributes.size() ? values.get(what - 10).size() : NONE;
    }
}
