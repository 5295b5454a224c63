import java.util.ArrayList;
import java.util.List;
import java.util.Random;

/** Promises 14 and 15: compare() and gain(). */
public final class CompareTest {
    private CompareTest() {
    }

    public static void main(String[] args) {
        weather();
        numbers();
        belowTheFirstNode();
        asTrainingIsNow();
        equalAlthoughNotAlike();
        equalOfTwoHundred();
        nearlyEqual();
        refusals();
        Check.end("CompareTest");
    }

    private static void weather() {
        GainTrees x = Weather.grown();
        int[][] splits = {{0, 0}, {1, 83000}, {2, 80000}, {3, 0}, {1, 70000}, {2, 75000}, {1, -1}, {1, 99000}};
        // by gain: 0.247, 0.113, 0.102, 0.048, 0.045, 0.045, 0, 0
        int[] rank = {6, 5, 4, 3, 2, 2, 1, 1};
        for (int i = 0; i < splits.length; i++) {
            for (int j = 0; j < splits.length; j++) {
                Check.due("compare(" + i + ", " + j + ")",
                        x.compare(0, splits[i][0], splits[i][1], splits[j][0], splits[j][1]),
                        Integer.compare(rank[i], rank[j]));
            }
        }
        Check.due("a cut is not looked at of values", x.compare(0, 0, 5, 0, Integer.MIN_VALUE), 0);
        Check.due("the greatest cut", x.compare(0, 1, Integer.MAX_VALUE, 1, Integer.MIN_VALUE), 0);
    }

    private static void numbers() {
        GainTrees x = Weather.grown();
        int[][] want = {{0, 0, 226397, 1447274}, {1, 70000, 41591, 862711}, {2, 75000, 41591, 862711},
            {2, 80000, 93804, 862711}, {3, 0, 44151, 903940}, {1, -1, 0, 0}, {1, 99000, 0, 0}};
        for (int[] w : want) {
            Check.due("gain 0 of " + w[0], x.gain(0, w[0], w[1], 0), w[2]);
            Check.due("gain 1 of " + w[0], x.gain(0, w[0], w[1], 1), w[3]);
        }
        GainTrees y = Check.bench("classes a,b;x:p,q;", "p,a;q,b;");
        Check.tape(y, "is a").tree();
        Check.due("G of two rows", y.gain(0, 0, 0, 0), 2 * 65536);
        Check.due("W of two rows", y.gain(0, 0, 0, 1), 2 * 65536);
        GainTrees z = Check.bench("classes a,b;x:p,q;", "p,a;q,b;q,b;");
        Check.tape(z, "is a").tree();
        Check.due("G of three rows", z.gain(0, 0, 0, 0), 3 * (int) Model.logOf(3) - 2 * 65536);
        Check.due("L(3)", Model.logOf(3), 103872L);
    }

    private static void belowTheFirstNode() {
        GainTrees x = Weather.grown();
        Check.due("humidity tells all of the sunny days", x.compare(1, 2, 70000, 1, 70000), 1);
        Check.due("as the days by wind in the rain", x.compare(5, 3, 0, 2, 70000), 1);
        Check.due("one class alone gains nothing", x.compare(4, 0, 0, 1, 72000), 0);
        Check.due("G of the sunny days", x.gain(1, 2, 70000, 0), x.gain(1, 2, 70000, 1));
        Check.due("G of one class", x.gain(4, 3, 0, 0), 0);
        Check.due("W of one class", x.gain(4, 3, 0, 1), 4 * 65536);
    }

    private static void asTrainingIsNow() {
        GainTrees x = Check.bench("classes a,b;x:p,q;y:p,q;", "p,p,a;q,q,b;");
        x.grow(0, 1, 60);
        Check.due("both tell all", x.compare(0, 0, 0, 1, 0), 0);
        Check.tape(x, "p,q,a;").rows(0);
        Check.due("then the first one alone", x.compare(0, 0, 0, 1, 0), 1);
        Check.due("from the other side", x.compare(0, 1, 0, 0, 0), -1);
        Check.due("two come to node 1", x.gain(1, 1, 0, 1), 2 * 65536);
        x.clear(0);
        Check.throwsState("no rows come", () -> x.compare(0, 0, 0, 1, 0));
        Check.throwsState("no rows come", () -> x.gain(0, 0, 0, 0));
        Check.tape(x, "p,q,a;").rows(0);
        Check.due("one comes to node 1", x.gain(1, 1, 0, 1), 0);
        Check.throwsState("none comes to node 2", () -> x.gain(2, 1, 0, 1));
        Check.throwsState("none comes to node 2", () -> x.compare(2, 1, 0, 1, 0));
    }

    /**
     * Sizes and classes differ, the product of all is the same: 4^4 of one part is 2^2 2^2 2^2 2^2 of four.
     * By x: parts of (2,2) and (0,4) rows; by y: (1,1), (1,1), (0,2), (0,2).
     */
    private static void equalAlthoughNotAlike() {
        GainTrees x = Check.bench("classes a,b;x:p,q;y:p,q,r,s;z:p,q;",
                "p,p,p,a;p,q,p,a;p,p,p,b;p,q,p,b;q,r,p,b;q,r,p,b;q,s,p,b;q,s,q,b;");
        Check.tape(x, "is a").tree();
        Check.due("the same gain", x.compare(0, 0, 0, 1, 0), 0);
        Check.due("less", x.compare(0, 2, 0, 1, 0), -1);
        Check.due("more", x.compare(0, 1, 0, 2, 0), 1);
    }

    /** Halves in which the classes stand as in all rows gain nothing, as all rows on one side do. */
    private static void equalOfTwoHundred() {
        StringBuilder rows = new StringBuilder();
        for (int i = 0; i < 200; i++) {
            rows.append(i % 2 == 0 ? "1," : "2,").append(i % 4 < 2 ? "a;" : "b;");
        }
        GainTrees x = Check.bench("classes a,b;x:measured;", rows.toString());
        Check.tape(x, "is a").tree();
        Check.due("count(2)", x.count(2), 200);
        Check.due("halves and all", x.compare(0, 0, 1000, 0, 2000), 0);
        Check.due("all and halves", x.compare(0, 0, 0, 0, 1000), 0);
        Check.tape(x, "").rows(0);
        Check.due("clear", x.clear(0), 200);
        Check.tape(x, rows.substring(0, 199 * 4) + "2,a;").rows(0);
        Check.due("not quite", x.compare(0, 0, 1000, 0, 2000), 1);
        Check.due("not quite", x.compare(0, 0, 2000, 0, 1000), -1);
    }

    /** Of 200 rows all splits are put in order by doubles; neighbours are compared as the model does it. */
    private static void nearlyEqual() {
        Random random = new Random(11);
        StringBuilder names = new StringBuilder("classes a,b,c,d,e,f;");
        for (int k = 0; k < 8; k++) {
            names.append('x').append(k).append(":measured;");
        }
        int[][] cells = new int[200][9];
        String[] texts = {names.toString(), "", ""};
        for (int part = 0; part < 2; part++) {
            StringBuilder rows = new StringBuilder();
            for (int i = part * 100; i < part * 100 + 100; i++) {
                for (int k = 0; k < 8; k++) {
                    cells[i][k] = random.nextInt(1000);
                    rows.append(cells[i][k]).append(',');
                }
                cells[i][8] = random.nextInt(6);
                rows.append((char) ('a' + cells[i][8])).append(';');
            }
            texts[1 + part] = rows.toString();
        }
        List<double[]> splits = new ArrayList<>();
        for (int k = 0; k < 8; k++) {
            for (int[] row : cells) {
                splits.add(new double[] {k, row[k] * 1000, gainOf(cells, k, row[k])});
            }
        }
        splits.sort((a, b) -> Double.compare(a[2], b[2]));
        GainTrees x = new GainTrees();
        Model model = new Model();
        for (int i = 0; i + 1 < splits.size(); i++) {
            if (i % 100 == 0) {
                x = new GainTrees();
                model = new Model();
                giveAll(x, model, texts);
            }
            double[] a = splits.get(i);
            double[] b = splits.get(i + 1);
            Check.due("neighbours " + i, x.compare(0, (int) a[0], (int) a[1], (int) b[0], (int) b[1]),
                    model.compare(0, (int) a[0], (int) a[1], (int) b[0], (int) b[1]));
        }
    }

    private static void giveAll(GainTrees x, Model model, String[] texts) {
        give(x, model, texts[0]);
        Check.due("names", x.names(), model.names());
        for (int part = 1; part < texts.length; part++) {
            give(x, model, texts[part]);
            Check.due("rows", x.rows(0), model.rows(0));
        }
        give(x, model, "is a");
        Check.due("tree", x.tree(), model.tree());
    }

    private static void give(GainTrees x, Model model, String text) {
        Check.tape(x, text);
        model.end(0);
        StringBuilder padded = new StringBuilder(text);
        while (padded.length() % 4 != 0) {
            padded.append(' ');
        }
        for (int i = 0; i < padded.length(); i += 4) {
            model.feed(padded.charAt(i) << 24 | padded.charAt(i + 1) << 16 | padded.charAt(i + 2) << 8
                    | padded.charAt(i + 3));
        }
        model.end(text.length());
    }

    private static double timesLog(int x) {
        return x == 0 ? 0 : x * Math.log(x);
    }

    private static double gainOf(int[][] cells, int k, int cut) {
        int[][] counts = new int[2][6];
        for (int[] row : cells) {
            counts[row[k] <= cut ? 0 : 1][row[8]]++;
        }
        double sum = 0;
        for (int[] side : counts) {
            int all = 0;
            for (int many : side) {
                sum += timesLog(many);
                all += many;
            }
            sum -= timesLog(all);
        }
        return sum;
    }

    private static void refusals() {
        GainTrees x = Weather.grown();
        for (int node : new int[] {-1, 8, 99, Integer.MIN_VALUE, Integer.MAX_VALUE}) {
            Check.throwsNoElement("compare of node " + node, () -> x.compare(node, 0, 0, 0, 0));
            Check.throwsNoElement("gain of node " + node, () -> x.gain(node, 0, 0, 0));
        }
        for (int k : new int[] {-1, 4, Integer.MIN_VALUE, Integer.MAX_VALUE}) {
            Check.throwsNoElement("compare by " + k, () -> x.compare(0, k, 0, 0, 0));
            Check.throwsNoElement("compare with " + k, () -> x.compare(0, 0, 0, k, 0));
            Check.throwsNoElement("gain by " + k, () -> x.gain(0, k, 0, 0));
        }
        for (int what : new int[] {-1, 2, Integer.MIN_VALUE, Integer.MAX_VALUE}) {
            Check.throwsNoElement("gain " + what, () -> x.gain(0, 0, 0, what));
        }
        x.clear(0);
        Check.throwsState("no rows ahead of no attribute", () -> x.compare(0, 9, 0, 9, 0));
        Check.throwsState("no rows ahead of no attribute", () -> x.gain(0, 9, 0, 9));
        GainTrees y = Check.bench(Weather.NAMES, Weather.ROWS);
        Check.throwsState("no tree ahead of no node", () -> y.compare(-1, 0, 0, 0, 0));
        Check.throwsState("no tree ahead of no node", () -> y.gain(-1, 9, 0, 9));
    }
}
