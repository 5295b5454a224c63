/** Promises 1 to 4, 24 and what count() tells of tape and result: a new object, feed, end, again, letter. */
public final class TapeTest {
    private TapeTest() {
    }

    public static void main(String[] args) {
        newObject();
        newObjectRefuses();
        feedPutsTheHighestByteFirst();
        feedKeepsAllBytes();
        feedHasABound();
        endCuts();
        againTakesTheResult();
        longResult();
        Check.end("TapeTest");
    }

    private static void newObject() {
        GainTrees x = new GainTrees();
        Check.due("NONE", GainTrees.NONE, -1);
        int[] want = {0, 0, 0, 0, 0, 0, -1, 0, 0, 0, -1};
        for (int what = 0; what < want.length; what++) {
            Check.due("count(" + what + ") of a new object", x.count(what), want[what]);
        }
        Check.due("fault(0)", x.fault(0), 0);
        Check.due("fault(1)", x.fault(1), -1);
        Check.due("letter(0)", x.letter(0), -1);
        Check.due("again()", x.again(), 0);
        Check.due("clear(0)", x.clear(0), 0);
        Check.due("clear(1)", x.clear(1), 0);
    }

    private static void newObjectRefuses() {
        GainTrees x = new GainTrees();
        Check.throwsState("rows", () -> x.rows(0));
        Check.throwsState("grow", () -> x.grow(0, 1, 60));
        Check.throwsState("tree", () -> x.tree());
        Check.throwsState("prune", () -> x.prune());
        Check.throwsState("node", () -> x.node(0, 0));
        Check.throwsState("compare", () -> x.compare(0, 0, 0, 0, 0));
        Check.throwsState("gain", () -> x.gain(0, 0, 0, 0));
        Check.throwsState("decide", () -> x.decide(0));
        Check.throwsState("tried", () -> x.tried(0, 0, 0, 0));
        Check.throwsState("errors", () -> x.errors(0, 0));
        Check.throwsState("folds", () -> x.folds(2, 0, 1, 60));
        Check.throwsState("rules", () -> x.rules());
        Check.throwsNoElement("rule", () -> x.rule(0, 0));
        Check.throwsNoElement("condition", () -> x.condition(0, 0, 0));
        Check.throwsState("write", () -> x.write(0));
        Check.throwsNoElement("row", () -> x.row(0, 0, 0));
    }

    private static int four(String text) {
        return text.charAt(0) << 24 | text.charAt(1) << 16 | text.charAt(2) << 8 | text.charAt(3);
    }

    private static void feedPutsTheHighestByteFirst() {
        GainTrees x = new GainTrees();
        Check.due("feed", x.feed(four("clas"), four("ses "), four("a,b;"), four("x:me"), four("asur")), 20);
        Check.due("feed", x.feed(four("ed; "), four("    "), four("    "), four("    "), four("    ")), 40);
        Check.due("names()", x.names(), 1);
        Check.due("the tape is empty behind a text", x.count(7), 0);
    }

    /** A byte above 127 is a byte like others: it begins no token, at its own place. */
    private static void feedKeepsAllBytes() {
        GainTrees x = new GainTrees();
        Check.due("feed", x.feed(0x20200a20, 0x200a20ff, -1, 0, Integer.MIN_VALUE), 20);
        Check.due("names()", x.names(), -1);
        Check.due("fault(0)", x.fault(0), 1);
        Check.due("fault(1)", x.fault(1), 7);
    }

    private static void feedHasABound() {
        GainTrees x = new GainTrees();
        for (int i = 1; i <= 200; i++) {
            Check.due("feed", x.feed(0, 0, 0, 0, 0), 20 * i);
        }
        Check.due("feed beyond 4000", x.feed(0, 0, 0, 0, 0), -1);
        Check.due("count(7)", x.count(7), 4000);
        Check.due("end(3981)", x.end(3981), true);
        Check.due("feed beyond 4000", x.feed(0, 0, 0, 0, 0), -1);
        Check.due("count(7)", x.count(7), 3981);
        Check.due("end(3980)", x.end(3980), true);
        Check.due("feed up to 4000", x.feed(0, 0, 0, 0, 0), 4000);
    }

    private static void endCuts() {
        GainTrees x = new GainTrees();
        Check.due("end(0)", x.end(0), true);
        Check.due("end(1)", x.end(1), false);
        x.feed(0, 0, 0, 0, 0);
        Check.due("end(-1)", x.end(-1), false);
        Check.due("end(21)", x.end(21), false);
        Check.due("count(7)", x.count(7), 20);
        Check.due("end(20)", x.end(20), true);
        Check.due("end(7)", x.end(7), true);
        Check.due("count(7)", x.count(7), 7);
        Check.due("end(8)", x.end(8), false);
        Check.due("feed", x.feed(0, 0, 0, 0, 0), 27);
    }

    private static void againTakesTheResult() {
        GainTrees x = Check.bench("classes a,b;x:measured;", "1,a;2,b;");
        x.grow(0, 1, 60);
        Check.due("the tree", Check.written(x, 0), "by x <= 1 is a else is b");
        x.grow(0, 1, 0);
        Check.append(x, "what goes");
        Check.due("again()", x.again(), 24);
        Check.due("count(7)", x.count(7), 24);
        Check.due("count(8)", x.count(8), 24);
        Check.due("tree()", x.tree(), 3);
        Check.due("count(7)", x.count(7), 0);
        Check.due("the result stays", Check.result(x), "by x <= 1 is a else is b");
        Check.due("again() once more", x.again(), 24);
        Check.due("letter(-1)", x.letter(-1), -1);
        Check.due("letter(0)", x.letter(0), (int) 'b');
        Check.due("letter(23)", x.letter(23), (int) 'b');
        Check.due("letter(24)", x.letter(24), -1);
        Check.due("letter of the greatest", x.letter(Integer.MAX_VALUE), -1);
        Check.due("letter of the least", x.letter(Integer.MIN_VALUE), -1);
    }

    /** No attribute alone tells anything, so each row gets a leaf and a rule; names are as long as they can be. */
    private static void longResult() {
        StringBuilder names = new StringBuilder("classes abcdefghijkl,abcdefghijkm");
        for (int k = 0; k < 3; k++) {
            names.append(";attributes0").append(k).append(':');
            for (int v = 0; v < (k == 2 ? 2 : 8); v++) {
                names.append(v == 0 ? "" : ",").append("valuenumber").append(v);
            }
        }
        GainTrees x = Check.bench(names + ";", "");
        for (int a = 0; a < 8; a++) {
            StringBuilder rows = new StringBuilder();
            for (int i = 0; i < 16; i++) {
                rows.append("valuenumber").append(a).append(",valuenumber").append(i / 2).append(",valuenumber")
                        .append(i % 2).append((a + i / 2 + i) % 2 == 0 ? ",abcdefghijkl;" : ",abcdefghijkm;");
            }
            Check.due("rows", Check.tape(x, rows.toString()).rows(0), 16 * a + 16);
        }
        Check.due("grow", x.grow(0, 1, 60), 201);
        Check.due("bytes of the tree", x.write(0), 17 + 8 * (32 + 8 * (32 + 2 * 30 + 2) + 2) + 2);
        keeps(x, "by attributes00 { valuenumber0: by");
        Check.due("rules", x.rules(), 128);
        Check.due("bytes of the rules", x.write(1), 128 * (2 + 28 + 2 * 32 + 5 + 13 + 1) + 127 + 19);
        keeps(x, "if attributes00 = valuenumber0 and");
    }

    private static void keeps(GainTrees x, String start) {
        Check.due("count(8)", x.count(8), 6000);
        for (int i = 0; i < start.length(); i++) {
            Check.due("letter(" + i + ")", x.letter(i), (int) start.charAt(i));
        }
        Check.due("letter(5999)", x.letter(5999) != -1, true);
        Check.due("letter(6000)", x.letter(6000), -1);
        Check.due("again()", x.again(), 4000);
        Check.due("count(7)", x.count(7), 4000);
    }
}
