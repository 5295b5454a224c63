import java.util.Random;
import java.util.concurrent.Callable;

/** Runs of calls drawn by a fixed seed, on the bench and on the model beside it: both must answer the same. */
public final class ModelTest {
    private final Random random;
    private final GainTrees bench = new GainTrees();
    private final Model model = new Model();
    private final StringBuilder told = new StringBuilder();
    private int classes;
    private int attributes;
    private final int[] values = new int[8];
    private int span;

    private ModelTest(long seed) {
        random = new Random(seed);
    }

    public static void main(String[] args) {
        int runs = args.length > 0 ? Integer.parseInt(args[0]) : 1500;
        long seed = args.length > 1 ? Long.parseLong(args[1]) : 1;
        for (int run = 0; run < runs; run++) {
            if (!new ModelTest(seed + run).run(run)) {
                break;
            }
        }
        for (int i = 0; i < 24; i++) {
            new ModelTest(seed - 1 - i).largeRun(i / 6, i % 3, i % 6 < 3 ? 1 : 4);
        }
        Check.end("ModelTest");
    }

    /** A table as large as it can be: six classes, eight attributes, 200 rows; one tree, so that 512 calls are enough. */
    private void largeRun(int sort, int mode, int least) {
        classes = 6;
        attributes = 8;
        span = sort == 2 ? 4 : sort == 1 ? 30 : 99;
        StringBuilder names = new StringBuilder("classes c0,c1,c2,c3,c4,c5;");
        for (int k = 0; k < attributes; k++) {
            values[k] = sort == 3 && k % 2 == 1 ? 1 + k : 0;
            names.append('a').append(k).append(':');
            for (int v = 0; v < values[k]; v++) {
                names.append(v == 0 ? "v" : ",v").append(v);
            }
            names.append(values[k] == 0 ? "measured;" : ";");
        }
        give(names.toString());
        ask("names()", bench::names, model::names);
        for (int part = 0; part < 5; part++) {
            int set = part < 4 ? 0 : 1;
            StringBuilder rows = new StringBuilder();
            for (int i = 0; i < (set == 0 ? 50 : 20); i++) {
                for (int k = 0; k < attributes; k++) {
                    rows.append(values[k] > 0 ? "v" + draw(values[k]) : "" + (draw(span) - span / 9)).append(',');
                }
                rows.append('c').append(sort == 2 ? part % 2 : draw(classes)).append(';');
            }
            give(rows.toString());
            ask("rows(" + set + ")", () -> bench.rows(set), () -> model.rows(set));
        }
        ask("grow(" + mode + ")", () -> bench.grow(mode, least, 60), () -> model.grow(mode, least, 60));
        lookAtNodes();
        ask("rules()", bench::rules, model::rules);
        lookAtRules();
        tryRows();
        writeAndRead();
        ask("prune()", bench::prune, model::prune);
        writeAndRead();
        ask("folds(" + mode + ")", () -> bench.folds(2, mode, 2, 8), () -> model.folds(2, mode, 2, 8));
    }

    private boolean run(int run) {
        int before = Check.wrong();
        int most = 400;
        int calls = 0;
        while (calls < most && Check.wrong() == before) {
            calls += calls == 0 || random.nextInt(60) == 0 ? giveNames() : someCall();
        }
        if (Check.wrong() != before) {
            System.out.println("run " + run + " of ModelTest:\n" + told);
            return false;
        }
        return true;
    }

    private boolean ask(String call, Callable<Object> ofBench, Callable<Object> ofModel) {
        Object want = Check.answer(ofModel);
        told.append(call).append(" -> ").append(want).append('\n');
        Check.due(call, Check.answer(ofBench), want);
        return "-1".equals(String.valueOf(want));
    }

    private int draw(int most) {
        return random.nextInt(most);
    }

    private int around(int low, int high) {
        if (draw(60) == 0) {
            int[] far = {Integer.MIN_VALUE, Integer.MAX_VALUE, Integer.MIN_VALUE + 5, Integer.MAX_VALUE - 5, 1 << 30, -1};
            return far[draw(far.length)];
        }
        return draw(15) == 0 ? low - 1 - draw(2) : draw(15) == 0 ? high + 1 + draw(2) : low + draw(high - low + 1);
    }

    // ---- texts
    private int give(String text) {
        told.append("tape: ").append(text).append('\n');
        int calls = 2;
        bench.end(0);
        model.end(0);
        for (int at = 0; at < text.length(); at += 20) {
            int[] w = new int[5];
            for (int i = 0; i < 20; i++) {
                int b = at + i < text.length() ? text.charAt(at + i) : 32;
                w[i / 4] = w[i / 4] << 8 | b;
            }
            Check.due("feed", bench.feed(w[0], w[1], w[2], w[3], w[4]), model.feed(w));
            calls++;
        }
        Check.due("end", bench.end(text.length()), model.end(text.length()));
        return calls;
    }

    /** Now and then a text is spoiled: a byte goes, comes, changes, or the end is cut off. */
    private String spoil(String text, int seldom) {
        if (draw(seldom) != 0 || text.isEmpty()) {
            return text;
        }
        if (draw(12) == 0) {
            StringBuilder bytes = new StringBuilder(text.substring(0, draw(text.length())));
            for (int i = draw(40); i > 0 && bytes.length() < 4000; i--) {
                bytes.append((char) draw(256));
            }
            return bytes.toString();
        }
        String signs = "az09_ ,:;{}<=.-A\n";
        int at = draw(text.length());
        String sign = "" + signs.charAt(draw(signs.length()));
        String[] words = {"is", "by", "else", "classes", "measured", "c0", "a1", "v1", "1000000.001", "-1000000", "12345678",
            "1.2345", "-0", "-0.5", "1.", "<=", "abcdefghijklm"};
        switch (draw(5)) {
            case 0:
                return text.substring(0, at);
            case 1:
                return text.substring(0, at) + text.substring(at + 1);
            case 2:
                return text.substring(0, at) + sign + text.substring(at);
            case 3:
                return text.substring(0, at) + " " + words[draw(words.length)] + " " + text.substring(at);
            default:
                return text.substring(0, at) + sign + text.substring(at + 1);
        }
    }

    private String blank() {
        return draw(12) == 0 ? draw(2) == 0 ? " " : "\n" : "";
    }

    private int giveNames() {
        classes = 2 + draw(draw(3) == 0 ? 5 : 2);
        attributes = 1 + draw(draw(3) == 0 ? 8 : 4);
        span = draw(3) == 0 ? 200 : 2 + draw(8);
        StringBuilder text = new StringBuilder("classes c0");
        for (int c = 1; c < classes; c++) {
            text.append(blank()).append(",c").append(c);
        }
        text.append(';');
        for (int k = 0; k < attributes; k++) {
            values[k] = draw(2) == 0 ? 0 : 2 + draw(draw(3) == 0 ? 7 : 2);
            text.append('a').append(k).append(':').append(blank());
            if (values[k] == 0) {
                text.append("measured;");
                continue;
            }
            for (int v = 0; v < values[k]; v++) {
                text.append(v == 0 ? "v" : ", v").append(v);
            }
            text.append(';');
        }
        int calls = give(spoil(text.toString(), 6));
        if (ask("names()", bench::names, model::names)) {
            calls += look();
            calls += give(text.toString());
            ask("names()", bench::names, model::names);
        }
        return calls + 2;
    }

    private String cell(int k) {
        if (values[k] > 0) {
            return "v" + draw(values[k]);
        }
        int number = draw(span) - span / 3;
        String behind = draw(6) == 0 ? "." + (draw(2) == 0 ? "5" : "250") : "";
        return number + behind;
    }

    private String cells() {
        StringBuilder text = new StringBuilder();
        for (int k = 0; k < attributes; k++) {
            text.append(k == 0 ? "" : ",").append(blank()).append(cell(k));
        }
        return text.toString();
    }

    private int giveRows() {
        int set = draw(3) == 0 ? 1 : 0;
        int many = draw(4) == 0 ? 60 : draw(20);
        StringBuilder text = new StringBuilder();
        for (int i = 0; i < many && text.length() < 3800; i++) {
            text.append(cells()).append(",c").append(draw(3) == 0 ? draw(classes) : draw(2)).append(';').append(blank());
        }
        int calls = give(spoil(text.toString(), 5));
        int asked = around(0, 1) != set && draw(20) == 0 ? 2 : set;
        ask("rows(" + asked + ")", () -> bench.rows(asked), () -> model.rows(asked));
        return calls + 1;
    }

    private String subtree(int depth) {
        if (depth == 0 || draw(4) == 0) {
            return "is c" + draw(classes);
        }
        int k = draw(attributes);
        if (values[k] == 0) {
            return "by a" + k + "<=" + cell(k) + " " + subtree(depth - 1) + " else " + subtree(depth - 1);
        }
        StringBuilder text = new StringBuilder("by a" + k + "{");
        for (int v = 0; v < values[k]; v++) {
            text.append(" v").append(v).append(':').append(subtree(depth - 1));
        }
        return text.append('}').toString();
    }

    private int giveTree() {
        String text = spoil(subtree(1 + draw(4)), 4);
        int calls;
        if (draw(4) == 0) {
            ask("again()", bench::again, model::again);
            calls = 1;
        } else {
            calls = give(text.length() > 2000 ? text.substring(0, 2000) : text);
        }
        ask("tree()", bench::tree, model::tree);
        return calls + 1;
    }

    // ---- calls
    private int look() {
        for (int what = -1; what <= 18; what++) {
            int w = what;
            ask("count(" + w + ")", () -> bench.count(w), () -> model.count(w));
        }
        for (int what = -1; what <= 2; what++) {
            int w = what;
            ask("fault(" + w + ")", () -> bench.fault(w), () -> model.fault(w));
        }
        return 24;
    }

    private int someCall() {
        switch (draw(16)) {
            case 0:
            case 1:
                return giveRows();
            case 2:
                return giveTree();
            case 3:
                return look();
            case 4:
            case 5: {
                int mode = around(0, 2);
                int least = draw(3) == 0 ? around(1, 20) : 1 + draw(3);
                int depth = draw(2) == 0 ? around(0, 60) : draw(4) == 0 ? draw(5) : 60;
                ask("grow(" + mode + ", " + least + ", " + depth + ")", () -> bench.grow(mode, least, depth),
                        () -> model.grow(mode, least, depth));
                return 1 + lookAtNodes();
            }
            case 6:
                ask("prune()", bench::prune, model::prune);
                return 1 + lookAtNodes();
            case 7: {
                if (draw(3) > 0) {
                    return 0;
                }
                int k = around(2, 10);
                int mode = around(0, 2);
                int least = 1 + draw(4);
                int depth = around(0, 20);
                ask("folds(" + k + ", " + mode + ", " + least + ", " + depth + ")",
                        () -> bench.folds(k, mode, least, depth), () -> model.folds(k, mode, least, depth));
                return 1;
            }
            case 8:
                ask("rules()", bench::rules, model::rules);
                return 1 + lookAtRules();
            case 9:
                return tryRows();
            case 10:
                return decideOne();
            case 11:
            case 12:
                return compareSome();
            case 13:
                return writeAndRead();
            case 14: {
                if (draw(4) > 0) {
                    return 0;
                }
                int set = around(0, 1);
                ask("clear(" + set + ")", () -> bench.clear(set), () -> model.clear(set));
                return 1;
            }
            default: {
                int set = around(0, 1);
                int i = draw(3) == 0 ? around(0, 200) : draw(10);
                int k = around(0, attributes);
                ask("row(" + set + ", " + i + ", " + k + ")", () -> bench.row(set, i, k), () -> model.row(set, i, k));
                return 1;
            }
        }
    }

    private int lookAtNodes() {
        int nodes = Math.max(model.count(4), 1);
        for (int i = 0; i < 20; i++) {
            int at = i < nodes ? i : around(0, nodes - 1);
            int what = draw(3) == 0 ? around(0, 26) : draw(6);
            ask("node(" + at + ", " + what + ")", () -> bench.node(at, what), () -> model.node(at, what));
        }
        return 20;
    }

    private int lookAtRules() {
        int rules = Math.max(model.count(5), 1);
        for (int i = 0; i < 8; i++) {
            int r = around(0, rules - 1);
            int what = around(0, 3);
            int j = around(0, 3);
            ask("rule(" + r + ", " + what + ")", () -> bench.rule(r, what), () -> model.rule(r, what));
            ask("condition(" + r + ", " + j + ", " + what + ")", () -> bench.condition(r, j, what),
                    () -> model.condition(r, j, what));
        }
        ask("count(6)", () -> bench.count(6), () -> model.count(6));
        return 17;
    }

    private int tryRows() {
        for (int i = 0; i < 4; i++) {
            int set = around(0, 1);
            int by = around(0, 1);
            int c = draw(classes + 2) - 1;
            int d = draw(classes + 2) - 1;
            ask("tried(" + set + ", " + by + ", " + c + ", " + d + ")", () -> bench.tried(set, by, c, d),
                    () -> model.tried(set, by, c, d));
            ask("errors(" + set + ", " + by + ")", () -> bench.errors(set, by), () -> model.errors(set, by));
        }
        return 8;
    }

    private int decideOne() {
        int by = around(0, 1);
        int calls = give(spoil(cells(), 4));
        ask("decide(" + by + ")", () -> bench.decide(by), () -> model.decide(by));
        return calls + 1;
    }

    private int compareSome() {
        for (int i = 0; i < 6; i++) {
            int node = draw(2) == 0 ? 0 : around(0, Math.max(model.count(4), 1) - 1);
            int a = around(0, attributes - 1);
            int b = around(0, attributes - 1);
            int cutA = 1000 * (draw(span + 2) - span / 3 - 1);
            int cutB = 1000 * (draw(span + 2) - span / 3 - 1);
            ask("compare(" + node + ", " + a + ", " + cutA + ", " + b + ", " + cutB + ")",
                    () -> bench.compare(node, a, cutA, b, cutB), () -> model.compare(node, a, cutA, b, cutB));
            int what = around(0, 1);
            ask("gain(" + node + ", " + a + ", " + cutA + ", " + what + ")",
                    () -> bench.gain(node, a, cutA, what), () -> model.gain(node, a, cutA, what));
        }
        return 12;
    }

    private int writeAndRead() {
        int what = around(0, 1);
        ask("write(" + what + ")", () -> bench.write(what), () -> model.write(what));
        int kept = model.count(8);
        int from = draw(Math.max(kept, 1));
        for (int i = from; i < from + 20; i++) {
            letter(i);
        }
        letter(-1);
        letter(kept - 1);
        letter(kept);
        return 24;
    }

    private void letter(int i) {
        ask("letter(" + i + ")", () -> bench.letter(i), () -> model.letter(i));
    }
}
