import java.util.concurrent.Callable;

/** Promises 1 to 25, sentence by sentence: calls with numbers at their bounds and beyond, refused calls. */
public final class EdgesOfCallsTest {
    private static final String NAMES = "classes a,b,c;x:measured;y:p,q,r;";
    private static final String ROWS = "1,p,a;2,q,b;3,q,c;";
    private static final int[] FAR = {Integer.MIN_VALUE, Integer.MIN_VALUE + 1, Integer.MIN_VALUE + 10,
        Integer.MIN_VALUE + 20, -1000, Integer.MAX_VALUE, Integer.MAX_VALUE - 1, 1 << 30, 1000};

    private EdgesOfCallsTest() {
    }

    public static void main(String[] args) {
        manyCalls();
        newObject();
        feedOrder();
        feedBound();
        end();
        again();
        againOfLongResults();
        emptyBehindEachText();
        names();
        namesWithAFault();
        rows();
        clear();
        fault();
        row();
        grow();
        tree();
        prune();
        node();
        compare();
        gain();
        decide();
        tried();
        errors();
        folds();
        foldsKeep();
        rules();
        rule();
        condition();
        write();
        letter();
        count();
        refusedCallsChangeNothing();
        refusedCallsOfANewObject();
        firstExceptionTold();
        Check.end("EdgesOfCallsTest");
    }

    // ---- benches
    private static GainTrees rowsAlone() {
        GainTrees x = Check.bench(NAMES, ROWS);
        Check.due("rows(1)", Check.tape(x, "1,p,b;9,r,c;").rows(1), 2);
        return x;
    }

    /** The tree is by x <= 1, by x <= 2; two rows are held out; the result is that of the rules; a fault is told. */
    private static GainTrees whole() {
        GainTrees x = rowsAlone();
        Check.due("grow(0, 1, 60)", x.grow(0, 1, 60), 5);
        Check.due("rules()", x.rules(), 3);
        Check.due("write(1)", x.write(1) > 0, true);
        Check.due("decide(0)", Check.tape(x, "1,s").decide(0), -1);
        return x;
    }

    private static String withoutFault(String state) {
        return state.replaceFirst("fault -?[0-9]+ at -?[0-9]+", "");
    }

    // ---- promises 1 to 4
    private static void manyCalls() {
        Check.sentence("Preamble", "An object is used for at most 512 calls after it has been made");
        GainTrees x = new GainTrees();
        for (int i = 0; i < 200; i++) {
            x.feed(0, 0, 0, 0, 0);
        }
        for (int i = 0; i < 300; i++) {
            Check.due("end(4000)", x.end(4000), true);
        }
        Check.tape(x, "classes a,b;x:p,q;");
        Check.due("names()", x.names(), 1);
        for (int call = 506; call <= 512; call++) {
            Check.due("call " + call, x.count(1), 1);
        }
    }

    private static void newObject() {
        Check.sentence("1", "No names, no rows, no tree, no RULES.");
        GainTrees x = new GainTrees();
        Check.due("its state", Check.state(x), "0 0 0 0 0 0 -1 0 0 0 -1 -1 -1 -1 -1 -1 -1 -1; fault 0 at -1; result ");
        Check.throwsNoElement("row(0, 0, 0)", () -> x.row(0, 0, 0));
        Check.throwsNoElement("row(1, 0, 0)", () -> x.row(1, 0, 0));
        GainTrees y = whole();
        GainTrees z = new GainTrees();
        Check.due("another one is new too", Check.state(z), Check.state(x));
        Check.due("and leaves the first alone", y.count(4), 5);
    }

    private static void feedOrder() {
        Check.sentence("2", "Twenty bytes come behind those on the TAPE, of each number the highest first");
        for (int place = 0; place < 20; place++) {
            for (int b : new int[] {'?', 0, 128, 255}) {
                int[] words = new int[5];
                for (int i = 0; i < 20; i++) {
                    words[i / 4] = words[i / 4] << 8 | (i == place ? b : 32);
                }
                GainTrees x = new GainTrees();
                Check.due("feed", x.feed(words[0], words[1], words[2], words[3], words[4]), 20);
                Check.due("names()", x.names(), -1);
                Check.due("fault(1) of byte " + b, x.fault(1), place);
            }
        }
        GainTrees x = Check.bench(NAMES, "");
        Check.append(x, "by x<=");
        Check.append(x, "1 is a else");
        Check.append(x, " is b");
        Check.due("behind those", x.tree(), 3);
    }

    private static void feedBound() {
        Check.sentence("2", "how many there are; NONE, doing nothing, when there would be more than 4000.");
        GainTrees x = Check.bench(NAMES, "");
        for (int i = 1; i < 200; i++) {
            Check.due("feed", x.feed(0x20202020, 0x20202020, 0x20202020, 0x20202020, 0x20202020), 20 * i);
        }
        Check.due("feed up to 4000", x.feed(0x69732061, 0x20202020, 0x20202020, 0x20202020, 0x20202020), 4000);
        Check.due("feed beyond", x.feed(0x3f3f3f3f, 0, 0, 0, 0), -1);
        Check.due("count(7)", x.count(7), 4000);
        Check.due("end(3981)", x.end(3981), true);
        Check.due("4001 would be there", x.feed(0, 0, 0, 0, 0), -1);
        Check.due("count(7)", x.count(7), 3981);
        Check.due("end(3984)", x.end(3984), false);
        Check.due("end(3980)", x.end(3980), true);
        Check.due("4000 are", x.feed(0x69732062, 0x20202020, 0x20202020, 0x20202020, 0x20202020), 4000);
        Check.due("tree()", x.tree(), 1);
        Check.due("of the bytes that came last", x.node(0, 2), 1);
    }

    private static void end() {
        Check.sentence("3", "The TAPE has its first n bytes alone: true; false, doing nothing, when it has not so many, or"
                + " n is below 0.");
        GainTrees x = Check.bench(NAMES, "");
        Check.due("end(0) of none", x.end(0), true);
        Check.due("end(1) of none", x.end(1), false);
        Check.due("end(-1) of none", x.end(-1), false);
        Check.append(x, "is a is b");
        for (int n : FAR) {
            Check.due("end(" + n + ")", x.end(n), false);
        }
        Check.due("end(10) of 9", x.end(10), false);
        Check.due("end(-1)", x.end(-1), false);
        Check.due("count(7)", x.count(7), 9);
        Check.due("end(9) of 9", x.end(9), true);
        Check.due("count(7)", x.count(7), 9);
        Check.due("end(4)", x.end(4), true);
        Check.due("count(7)", x.count(7), 4);
        Check.due("end(5)", x.end(5), false);
        Check.due("tree() of the first four", x.tree(), 1);
        Check.due("end(1) behind a text", x.end(1), false);
    }

    private static void again() {
        Check.sentence("4", "The TAPE has the first 4000 bytes of the RESULT: how many.");
        GainTrees x = new GainTrees();
        Check.append(x, "what goes");
        Check.due("again() without a RESULT", x.again(), 0);
        Check.due("count(7)", x.count(7), 0);
        GainTrees y = whole();
        y.write(0);
        Check.append(y, "what goes");
        int bytes = y.count(8);
        Check.due("again()", y.again(), bytes);
        Check.due("count(7)", y.count(7), bytes);
        Check.due("the RESULT stays", y.count(8), bytes);
        Check.due("tree()", y.tree(), 5);
        Check.due("again() once more", y.again(), bytes);
        Check.due("end(4)", y.end(4), true);
        Check.due("the RESULT stays", y.count(8), bytes);
    }

    private static String word(int length, char last) {
        return "w".repeat(length - 1) + last;
    }

    /**
     * No ATTRIBUTE alone tells anything, so there are 1 + 8 + 64 forks and 128 leaves; their text has
     * 64 (b + e + 2 c + 2 d + 22) + 8 (a + f + 10) + g + 7 bytes, by the lengths of names.
     */
    private static GainTrees longTree(int a, int b, int c, int d, int e, int f, int g) {
        StringBuilder names = new StringBuilder("classes " + word(d, 'a') + "," + word(d, 'b') + ";");
        int[] lengths = {a, b, c};
        String[] attributes = {"u" + word(g, 'r').substring(1), "v" + word(f, 's').substring(1), word(e, 't')};
        for (int k = 0; k < 3; k++) {
            names.append(attributes[k]).append(':');
            for (int v = 0; v < (k == 2 ? 2 : 8); v++) {
                names.append(v == 0 ? "" : ",").append(word(lengths[k], (char) ('a' + v)));
            }
            names.append(';');
        }
        GainTrees x = Check.bench(names.toString(), "");
        for (int r = 0; r < 8; r++) {
            StringBuilder rows = new StringBuilder();
            for (int i = 0; i < 16; i++) {
                rows.append(word(a, (char) ('a' + r))).append(',').append(word(b, (char) ('a' + i / 2))).append(',')
                        .append(word(c, (char) ('a' + i % 2))).append(',')
                        .append(word(d, (r + i / 2 + i) % 2 == 0 ? 'a' : 'b')).append(';');
            }
            Check.due("rows(0)", Check.tape(x, rows.toString()).rows(0), 16 * r + 16);
        }
        Check.due("grow(0, 1, 60)", x.grow(0, 1, 60), 201);
        int bytes = 64 * (b + e + 2 * c + 2 * d + 22) + 8 * (a + f + 10) + g + 7;
        Check.due("write(0)", x.write(0), bytes);
        Check.due("count(8)", x.count(8), Math.min(bytes, 6000));
        return x;
    }

    private static void againOfLongResults() {
        Check.sentence("4, 23", "the first 4000 bytes; how many bytes (the first 6000 are kept)");
        int[][] lengths = {{12, 6, 6, 6, 6, 12, 8, 3999}, {12, 6, 6, 6, 6, 12, 9, 4000}, {12, 6, 6, 6, 6, 12, 10, 4001},
            {9, 12, 11, 11, 12, 9, 8, 5999}, {9, 12, 11, 11, 12, 9, 9, 6000}, {9, 12, 11, 11, 12, 9, 10, 6001}};
        for (int[] n : lengths) {
            GainTrees x = longTree(n[0], n[1], n[2], n[3], n[4], n[5], n[6]);
            int bytes = n[7];
            int kept = Math.min(bytes, 6000);
            Check.due("write(0)", x.write(0), bytes);
            Check.due("letter of the last one kept", x.letter(kept - 1), (int) (bytes <= 6000 ? '}' : ' '));
            Check.due("letter behind it", x.letter(kept), -1);
            int taken = Math.min(bytes, 4000);
            Check.due("again()", x.again(), taken);
            Check.due("count(7)", x.count(7), taken);
            Check.due("tree()", x.tree(), bytes <= 4000 ? 201 : -1);
            if (bytes == 4001) {
                Check.due("the last } is missing", x.fault(0), 1);
                Check.due("its place", x.fault(1), 4000);
            }
        }
        GainTrees x = longTree(12, 12, 12, 12, 12, 12, 12);
        Check.due("rules()", x.rules(), 128);
        Check.due("write(1)", x.write(1) > 6000, true);
        Check.due("count(8)", x.count(8), 6000);
        Check.due("letter(6000)", x.letter(6000), -1);
        Check.due("a shorter RESULT takes its place", Check.tape(x, "is " + word(12, 'a')).tree(), 1);
        Check.due("write(0)", x.write(0), 15);
        Check.due("count(8)", x.count(8), 15);
        Check.due("letter(15)", x.letter(15), -1);
    }

    // ---- promises 5 to 9
    private static void emptyBehindEachText() {
        Check.sentence("5", "The TAPE (empty then, as behind each text)");
        String[][] texts = {{NAMES, "classes"}, {"1,p,a;", "1,p"}, {"is a", "is"}, {"1,p", "1"}};
        for (int fault = 0; fault < 2; fault++) {
            GainTrees x = whole();
            for (int i = 3; i >= 0; i--) {
                Check.tape(x, texts[i][fault]);
                int got = i == 0 ? x.names() : i == 1 ? x.rows(0) : i == 2 ? x.tree() : x.decide(0);
                Check.due("text " + i + " has a fault", got == -1, fault == 1);
                Check.due("count(7) behind it", x.count(7), 0);
                Check.due("end(1)", x.end(1), false);
            }
        }
    }

    private static void names() {
        Check.sentence("5", "how many ATTRIBUTES; both tables are empty then, there are no tree, no RULES.");
        GainTrees x = whole();
        Check.due("names()", Check.tape(x, "classes k,l;u:measured;v:g,h,i,j;w:measured;").names(), 3);
        int result = x.count(8);
        Check.due("its state", withoutResult(Check.state(x)),
                "2 3 0 0 0 0 -1 0 " + result + " 0 0 4 0 -1 -1 -1 -1 -1; fault 0 at -1; result ");
        Check.throwsState("no tree", () -> x.write(0));
        Check.throwsState("no rules", () -> x.write(1));
        Check.throwsNoElement("no rule", () -> x.rule(0, 0));
        GainTrees y = whole();
        Check.due("the same names", Check.tape(y, NAMES).names(), 2);
        Check.due("count(2)", y.count(2), 0);
        Check.due("count(3)", y.count(3), 0);
        Check.due("count(4)", y.count(4), 0);
        Check.due("count(6)", y.count(6), -1);
    }

    private static String withoutResult(String state) {
        return state.substring(0, state.indexOf("result ") + 7);
    }

    private static void namesWithAFault() {
        Check.sentence("5", "NONE with a FAULT (nothing else is changed).");
        String[] faulty = {"", "classes a,a;", "classes a,b;x:measured", "classes k,l,m,n,o,p,q;", "classes k,l;u:g,h;u:i,j;"};
        for (String text : faulty) {
            GainTrees x = whole();
            String before = withoutFault(Check.state(x));
            Check.due("names()", Check.tape(x, text).names(), -1);
            Check.due("its state", withoutFault(Check.state(x)), before);
            Check.due("the names of before", Check.tape(x, "3,q").decide(1), 2);
        }
        GainTrees y = new GainTrees();
        Check.due("names()", Check.tape(y, "classes a,b,c;u:p,q;v:p,q;w:p,q,r;x:p").names(), -1);
        Check.due("none of a text with a FAULT", Check.tape(y, "classes a,b;x:measured;").names(), 1);
        Check.due("count(0)", y.count(0), 2);
        Check.due("count(10)", y.count(10), 0);
        for (int i = 0; i < 3; i++) {
            Check.due("names()", Check.tape(y, "classes a,b,c;x:p,q;y:p,q,r;").names(), 2);
            Check.due("names()", Check.tape(y, "classes a,b;x:measured;").names(), 1);
            Check.due("none of those before", y.count(10), 0);
            Check.due("none of those before", y.count(11), -1);
        }
        GainTrees x = new GainTrees();
        Check.due("names()", Check.tape(x, "classes a,b;x:p,q").names(), -1);
        Check.throwsState("there are no names as before", () -> x.rows(0));
        Check.due("count(0)", x.count(0), 0);
        Check.due("count(10)", x.count(10), -1);
    }

    private static void rows() {
        Check.sentence("6", "how many rows that has then; NONE with a FAULT (no row comes).");
        GainTrees x = rowsAlone();
        Check.due("rows(0)", Check.tape(x, "4,r,a;").rows(0), 4);
        Check.due("rows(1)", Check.tape(x, "4,r,a;5,r,a;").rows(1), 4);
        Check.due("rows(0) of none", Check.tape(x, "").rows(0), 4);
        String before = withoutFault(Check.state(x));
        for (int set = 0; set < 2; set++) {
            for (String text : new String[] {"6,p,a;7,p", "6,p,a;7,p,d;", "6,p,a;7777777,p,a;", "6,p,a;".repeat(198)}) {
                Check.due("rows(" + set + ")", Check.tape(x, text).rows(set), -1);
            }
        }
        Check.due("no row comes", withoutFault(Check.state(x)), before);
        Check.due("behind those that were there", Check.tape(x, "6,q,b;").rows(0), 5);
        Check.due("row(0, 4, 0)", x.row(0, 4, 0), 6000);
        Check.due("row(0, 3, 0)", x.row(0, 3, 0), 4000);
    }

    private static void clear() {
        Check.sentence("7", "All rows of a table go: how many there were.");
        GainTrees x = whole();
        Check.due("clear(1)", x.clear(1), 2);
        Check.due("clear(1) of none", x.clear(1), 0);
        Check.due("count(2)", x.count(2), 3);
        Check.due("clear(0)", x.clear(0), 3);
        Check.due("clear(0) of none", x.clear(0), 0);
        Check.due("the tree stays", x.count(4), 5);
        Check.due("the rules stay", x.count(5), 3);
        Check.due("the names stay", x.count(1), 2);
        Check.throwsNoElement("no row", () -> x.row(0, 0, 0));
        Check.due("rows(0)", Check.tape(x, "7,r,c;").rows(0), 1);
        Check.due("as the first one", x.row(0, 0, 0), 7000);
        GainTrees y = Check.bench("classes a,b;x:p,q;", "p,a;".repeat(200));
        Check.due("clear(0) of a full one", y.clear(0), 200);
        Check.due("room again", Check.tape(y, "p,a;".repeat(200)).rows(0), 200);
    }

    private static void fault() {
        Check.sentence("8", "Of the latest text read: its FAULT (0 without, and ahead of any), its place (NONE without)."
                + " NONE for another what.");
        GainTrees x = new GainTrees();
        Check.due("fault(0) ahead of any", x.fault(0), 0);
        Check.due("fault(1) ahead of any", x.fault(1), -1);
        Check.due("names()", Check.tape(x, "classes a,a").names(), -1);
        for (int what : FAR) {
            Check.due("fault(" + what + ")", x.fault(what), -1);
        }
        Check.due("fault(-1)", x.fault(-1), -1);
        Check.due("fault(2)", x.fault(2), -1);
        Check.due("fault(0)", x.fault(0), 2);
        Check.due("fault(1)", x.fault(1), 10);
        faultBehind(x, Check.tape(x, NAMES).names(), 0, -1);
        faultBehind(x, Check.tape(x, "?").rows(0), 1, 0);
        faultBehind(x, Check.tape(x, ROWS).rows(0), 0, -1);
        faultBehind(x, Check.tape(x, "is a by").tree(), 1, 5);
        faultBehind(x, Check.tape(x, "is a").tree(), 0, -1);
        faultBehind(x, Check.tape(x, "-2000000,p").decide(0), 3, 0);
        faultBehind(x, Check.tape(x, "1,p").decide(0), 0, -1);
        faultBehind(x, Check.tape(x, "1,p,d;").rows(1), 2, 4);
        x.rules();
        x.write(1);
        x.again();
        x.prune();
        Check.due("other calls read no text", x.fault(0), 2);
        Check.due("other calls read no text", x.fault(1), 4);
    }

    private static void faultBehind(GainTrees x, int answer, int kind, int place) {
        Check.due("there is a fault", answer == -1, kind != 0);
        Check.due("fault(0)", x.fault(0), kind);
        Check.due("fault(1)", x.fault(1), place);
    }

    private static void row() {
        Check.sentence("9", "of k as many as there are ATTRIBUTES its CLASS; NoSuchElementException: no such row, or k");
        GainTrees x = rowsAlone();
        int[][] want = {{1000, 0, 0}, {2000, 1, 1}, {3000, 1, 2}};
        for (int i = 0; i < 3; i++) {
            for (int k = 0; k < 3; k++) {
                Check.due("row(0, " + i + ", " + k + ")", x.row(0, i, k), want[i][k]);
            }
        }
        Check.due("row(1, 1, 0)", x.row(1, 1, 0), 9000);
        Check.due("row(1, 1, 1)", x.row(1, 1, 1), 2);
        Check.due("row(1, 1, 2)", x.row(1, 1, 2), 2);
        for (int far : FAR) {
            Check.throwsNoElement("row(0, " + far + ", 0)", () -> x.row(0, far, 0));
            Check.throwsNoElement("row(0, 0, " + far + ")", () -> x.row(0, 0, far));
            Check.throwsArgument("row(" + far + ", 0, 0)", () -> x.row(far, 0, 0));
        }
        Check.throwsNoElement("row(0, -1, 0)", () -> x.row(0, -1, 0));
        Check.throwsNoElement("row(0, 3, 0)", () -> x.row(0, 3, 0));
        Check.throwsNoElement("row(1, 2, 0)", () -> x.row(1, 2, 0));
        Check.throwsNoElement("row(0, 0, -1)", () -> x.row(0, 0, -1));
        Check.throwsNoElement("row(0, 0, 3)", () -> x.row(0, 0, 3));
        Check.throwsArgument("row(-1, 0, 0)", () -> x.row(-1, 0, 0));
        Check.throwsArgument("row(2, 0, 0)", () -> x.row(2, 0, 0));
        GainTrees y = Check.bench("classes a,b;c0:p,q;c1:p,q;c2:p,q;c3:p,q;c4:p,q;c5:p,q;c6:p,q;c7:measured;",
                "p,q,p,q,p,q,p,-1000000,b;");
        Check.due("the eighth", y.row(0, 0, 7), -1000000000);
        Check.due("its CLASS", y.row(0, 0, 8), 1);
        Check.throwsNoElement("row(0, 0, 9)", () -> y.row(0, 0, 9));
    }

    // ---- promises 10 to 15
    private static void grow() {
        Check.sentence("10", "IllegalArgumentException: MODE is not 0 .. 2, LEAST not 1 .. 20, DEPTH not 0 .. 60."
                + " IllegalStateException: TRAINING has no rows. There are no RULES then.");
        GainTrees x = whole();
        String before = Check.state(x);
        for (int far : FAR) {
            Check.throwsArgument("grow(" + far + ", 1, 60)", () -> x.grow(far, 1, 60));
            Check.throwsArgument("grow(0, " + far + ", 60)", () -> x.grow(0, far, 60));
            Check.throwsArgument("grow(0, 1, " + far + ")", () -> x.grow(0, 1, far));
        }
        int[][] beyond = {{-1, 1, 60}, {3, 1, 60}, {0, 0, 60}, {0, 21, 60}, {0, -1, 60}, {0, 1, -1}, {0, 1, 61}};
        for (int[] n : beyond) {
            Check.throwsArgument("grow(" + n[0] + ", " + n[1] + ", " + n[2] + ")", () -> x.grow(n[0], n[1], n[2]));
        }
        Check.due("its state", Check.state(x), before);
        int[][] bounds = {{0, 1, 0, 1}, {0, 1, 60, 5}, {1, 1, 60, 5}, {2, 1, 60, 5}, {2, 20, 60, 1}, {0, 20, 0, 1}, {2, 1, 1, 3}};
        GainTrees y = whole();
        for (int[] n : bounds) {
            Check.due("rules()", y.rules() > 0, true);
            Check.due("grow(" + n[0] + ", " + n[1] + ", " + n[2] + ")", y.grow(n[0], n[1], n[2]), n[3]);
            Check.due("count(5)", y.count(5), 0);
            Check.due("count(6)", y.count(6), -1);
        }
        y.clear(0);
        Check.throwsState("HOLDOUT alone has rows", () -> y.grow(0, 1, 60));
        Check.due("the tree stays", y.count(4), 3);
        Check.tape(y, "1,p,c;").rows(0);
        Check.due("one row", y.grow(0, 1, 60), 1);
    }

    private static void tree() {
        Check.sentence("11", "how many NODES; NONE with a FAULT (the tree stays). There are no RULES then.");
        GainTrees x = whole();
        Check.due("tree()", Check.tape(x, "by x<=1 is a else is b").tree(), 3);
        Check.due("count(5)", x.count(5), 0);
        Check.due("count(6)", x.count(6), -1);
        Check.throwsState("write(1)", () -> x.write(1));
        Check.throwsNoElement("rule(0, 0)", () -> x.rule(0, 0));
        GainTrees y = whole();
        String before = treeOf(Check.state(y));
        Check.due("tree()", Check.tape(y, "by x<=1 is a else by x<=2 is b else is d").tree(), -1);
        Check.due("the tree stays", treeOf(Check.state(y)), before);
        Check.due("count(4)", y.count(4), 5);
        Check.due("no RULES", y.count(5), 0);
        GainTrees z = Check.bench(NAMES, "");
        Check.due("without rows", Check.tape(z, "by x<=1 is a else is b").tree(), 3);
        Check.due("node(0, 3)", z.node(0, 3), 0);
        GainTrees w = new GainTrees();
        Check.tape(w, "is a");
        Check.throwsState("there are no names", () -> w.tree());
        Check.due("the TAPE stays", w.count(7), 4);
    }

    private static String treeOf(String state) {
        int from = state.indexOf("; nodes");
        int to = state.indexOf("; rules");
        return state.substring(from, to < 0 ? state.length() : to);
    }

    private static void prune() {
        Check.sentence("12", "how many NODES became LEAVES. There are no RULES then. IllegalStateException: there is no tree.");
        GainTrees x = whole();
        Check.due("with fewer ERRORS below", x.prune(), 0);
        Check.due("no RULES then, though none became a LEAF", x.count(6), -1);
        x.rules();
        x.clear(1);
        Check.due("prune()", x.prune(), 2);
        Check.due("count(5)", x.count(5), 0);
        Check.due("count(6)", x.count(6), -1);
        Check.due("rules()", x.rules(), 1);
        Check.due("prune() of a LEAF alone", x.prune(), 0);
        Check.due("no RULES then", x.count(6), -1);
        Check.throwsState("errors(0, 1)", () -> x.errors(0, 1));
        GainTrees y = rowsAlone();
        Check.throwsState("no tree", () -> y.prune());
        GainTrees z = whole();
        Check.tape(z, NAMES).names();
        Check.throwsState("no tree behind names()", () -> z.prune());
    }

    private static void node() {
        Check.sentence("13", "IllegalStateException: there is no tree. NoSuchElementException: no such NODE, or what.");
        GainTrees x = whole();
        for (int far : FAR) {
            Check.throwsNoElement("node(" + far + ", 0)", () -> x.node(far, 0));
            Check.throwsNoElement("node(0, " + far + ")", () -> x.node(0, far));
        }
        Check.throwsNoElement("node(-1, 0)", () -> x.node(-1, 0));
        Check.throwsNoElement("node(5, 0)", () -> x.node(5, 0));
        Check.due("the last one", x.node(4, 2), 2);
        Check.throwsNoElement("behind the last one", () -> x.node(5, 2));
        for (int what : new int[] {-1, 6, 7, 8, 9, 12, 13, 17, 18, 19, 23, 24, 25, 26}) {
            Check.throwsNoElement("node(0, " + what + ")", () -> x.node(0, what));
        }
        Check.due("node(0, 11)", x.node(0, 11), 2);
        Check.due("node(0, 20)", x.node(0, 20), 1);
        Check.due("node(0, 22)", x.node(0, 22), 1);
        Check.throwsNoElement("child 0 of a LEAF", () -> x.node(1, 10));
        GainTrees y = Check.bench("classes a,b,c,d,e,f;y:p,q,r,s,t,u,v,w;", "p,a;w,f;");
        y.grow(0, 1, 60);
        Check.due("child 7", y.node(0, 17), 8);
        Check.throwsNoElement("child 8", () -> y.node(0, 18));
        Check.due("CLASS 5", y.node(8, 25), 1);
        Check.throwsNoElement("CLASS 6", () -> y.node(8, 26));
        GainTrees z = rowsAlone();
        Check.throwsState("no tree", () -> z.node(0, 0));
    }

    private static void compare() {
        Check.sentence("14", "each with a CUT (any number in thousandths; not looked at, if the ATTRIBUTE has VALUES; whether"
                + " they may be or not)");
        GainTrees x = whole();
        for (int far : FAR) {
            int cut = far;
            Check.throwsNoElement("compare of node " + far, () -> x.compare(cut, 0, 0, 0, 0));
            Check.throwsNoElement("compare by " + far, () -> x.compare(0, cut, 0, 0, 0));
            Check.throwsNoElement("compare with " + far, () -> x.compare(0, 0, 0, cut, 0));
            Check.due("by VALUES with any CUT", x.compare(0, 1, cut, 1, 0), 0);
            Check.due("by a CUT beyond all rows", x.compare(0, 0, cut, 0, Integer.MIN_VALUE), cut == 1000 ? 1 : 0);
        }
        Check.throwsNoElement("node 5", () -> x.compare(5, 0, 0, 0, 0));
        Check.throwsNoElement("node -1", () -> x.compare(-1, 0, 0, 0, 0));
        Check.throwsNoElement("ATTRIBUTE 2", () -> x.compare(0, 2, 0, 0, 0));
        Check.throwsNoElement("ATTRIBUTE 2", () -> x.compare(0, 0, 0, 2, 0));
        Check.throwsNoElement("ATTRIBUTE -1", () -> x.compare(0, -1, 0, 0, 0));
        Check.due("a CUT between numbers of rows", x.compare(0, 0, 1500, 0, 1000), 0);
        Check.due("just below the first number", x.compare(0, 0, 999, 0, 1000), -1);
        Check.due("the last node", x.compare(4, 0, 0, 1, 0), 0);
        Check.sentence("14", "ROWS are those that come there as TRAINING is now; IllegalStateException: there is no tree, or"
                + " no such ROWS");
        x.clear(0);
        Check.throwsState("no ROWS at all", () -> x.compare(0, 0, 0, 0, 0));
        Check.tape(x, "9,p,a;9,p,b;").rows(0);
        Check.throwsState("none come to node 1", () -> x.compare(1, 0, 0, 0, 0));
        Check.due("two come to node 4", x.compare(4, 0, 9000, 1, 0), 0);
        GainTrees y = rowsAlone();
        Check.throwsState("no tree", () -> y.compare(0, 0, 0, 0, 0));
    }

    private static void gain() {
        Check.sentence("15", "0 G, 1 W. IllegalStateException, NoSuchElementException as for compare(), the latter also for"
                + " another what.");
        GainTrees x = whole();
        for (int far : FAR) {
            Check.throwsNoElement("gain of node " + far, () -> x.gain(far, 0, 0, 0));
            Check.throwsNoElement("gain by " + far, () -> x.gain(0, far, 0, 0));
            Check.throwsNoElement("gain what " + far, () -> x.gain(0, 0, 0, far));
            Check.due("W by VALUES with any CUT", x.gain(0, 1, far, 1), 3 * 103872 - 131072);
        }
        Check.throwsNoElement("what 2", () -> x.gain(0, 0, 0, 2));
        Check.throwsNoElement("what -1", () -> x.gain(0, 0, 0, -1));
        Check.throwsNoElement("node 5", () -> x.gain(5, 0, 0, 0));
        Check.throwsNoElement("ATTRIBUTE 2", () -> x.gain(0, 2, 0, 0));
        Check.due("G", x.gain(0, 0, 1000, 0), 3 * 103872 - 131072);
        Check.due("W at the number of a row", x.gain(0, 0, 1000, 1), 3 * 103872 - 131072);
        Check.due("W just below it", x.gain(0, 0, 999, 1), 0);
        x.clear(0);
        Check.throwsState("no ROWS", () -> x.gain(0, 0, 0, 0));
        GainTrees y = rowsAlone();
        Check.throwsState("no tree", () -> y.gain(0, 0, 0, 0));
    }

    // ---- promises 16 to 19
    private static void decide() {
        Check.sentence("16", "IllegalArgumentException: another by (the TAPE stays). IllegalStateException: there is no tree,"
                + " or (by 1) RULES were not made of it (it stays).");
        GainTrees x = rowsAlone();
        Check.tape(x, "3,q");
        for (int far : FAR) {
            Check.throwsArgument("decide(" + far + ")", () -> x.decide(far));
        }
        Check.throwsArgument("decide(2)", () -> x.decide(2));
        Check.throwsArgument("decide(-1)", () -> x.decide(-1));
        Check.throwsState("decide(0) without a tree", () -> x.decide(0));
        Check.throwsState("decide(1) without a tree", () -> x.decide(1));
        Check.due("the TAPE stays", x.count(7), 3);
        x.grow(0, 1, 60);
        Check.throwsState("decide(1) without RULES", () -> x.decide(1));
        Check.due("the TAPE stays", x.count(7), 3);
        Check.due("decide(0)", x.decide(0), 2);
        x.rules();
        Check.due("decide(1)", Check.tape(x, "3,q").decide(1), 2);
        Check.due("with a FAULT", Check.tape(x, "3,s").decide(1), -1);
        Check.due("RULES stay", Check.tape(x, "1,q").decide(1), 0);
        x.clear(1);
        Check.due("prune()", x.prune(), 2);
        Check.tape(x, "3,q");
        Check.throwsState("decide(1) behind prune()", () -> x.decide(1));
        Check.due("the TAPE stays", x.count(7), 3);
        Check.due("decide(0)", x.decide(0), 0);
    }

    private static void tried() {
        Check.sentence("17", "(NONE: any) .. with c NONE of all CLASSES (0 for other numbers)");
        GainTrees x = whole();
        for (int by = 0; by < 2; by++) {
            int way = by;
            for (int set = 0; set < 2; set++) {
                int table = set;
                Check.due("all", x.tried(set, by, -1, -1), set == 0 ? 3 : 2);
                for (int far : FAR) {
                    Check.due("c " + far, x.tried(set, by, far, -1), 0);
                    Check.due("d " + far, x.tried(set, by, -1, far), 0);
                    Check.throwsArgument("set " + far, () -> x.tried(far, way, -1, -1));
                    Check.throwsArgument("by " + far, () -> x.tried(table, far, -1, -1));
                }
                for (int none : new int[] {-2, 3, 6}) {
                    Check.due("c " + none, x.tried(set, by, none, -1), 0);
                    Check.due("d " + none, x.tried(set, by, -1, none), 0);
                }
            }
            Check.due("b as a", x.tried(1, by, 1, 0), 1);
            Check.due("b as b", x.tried(1, by, 1, 1), 0);
            Check.due("any as a", x.tried(1, by, -1, 0), 1);
            Check.due("c as any", x.tried(1, by, 2, -1), 1);
            Check.throwsArgument("set 2", () -> x.tried(2, way, 0, 0));
            Check.throwsArgument("set -1", () -> x.tried(-1, way, 0, 0));
            Check.throwsArgument("by 2", () -> x.tried(0, 2, 0, 0));
            Check.throwsArgument("by -1", () -> x.tried(0, -1, 0, 0));
        }
        x.clear(1);
        Check.due("of no rows", x.tried(1, 0, -1, -1), 0);
        GainTrees y = rowsAlone();
        Check.throwsState("no tree", () -> y.tried(0, 0, 0, 0));
        Check.throwsState("no tree, of no class", () -> y.tried(0, 1, 99, 99));
        y.grow(0, 1, 60);
        Check.throwsState("no RULES", () -> y.tried(0, 1, 0, 0));
    }

    private static void errors() {
        Check.sentence("18", "ERRORS of a table likewise.");
        GainTrees x = whole();
        for (int far : FAR) {
            Check.throwsArgument("set " + far, () -> x.errors(far, 0));
            Check.throwsArgument("by " + far, () -> x.errors(0, far));
        }
        Check.throwsArgument("set 2", () -> x.errors(2, 0));
        Check.throwsArgument("set -1", () -> x.errors(-1, 1));
        Check.throwsArgument("by 2", () -> x.errors(0, 2));
        Check.throwsArgument("by -1", () -> x.errors(1, -1));
        Check.due("none", x.errors(0, 0), 0);
        Check.due("none by RULES", x.errors(0, 1), 0);
        Check.due("one", x.errors(1, 0), 1);
        Check.due("one by RULES", x.errors(1, 1), 1);
        x.clear(1);
        Check.due("of no rows", x.errors(1, 0), 0);
        Check.due("of no rows by RULES", x.errors(1, 1), 0);
        Check.tape(x, "1,p,c;".repeat(100)).rows(1);
        Check.due("all of a full one", x.errors(1, 0), 100);
        GainTrees y = rowsAlone();
        Check.throwsState("no tree", () -> y.errors(0, 0));
        Check.throwsState("no tree", () -> y.errors(0, 1));
        y.grow(0, 1, 60);
        Check.throwsState("no RULES", () -> y.errors(0, 1));
        Check.due("by the tree", y.errors(0, 0), 0);
    }

    private static void folds() {
        Check.sentence("19", "IllegalArgumentException: k is not 2 .. 10, others as for grow(). IllegalStateException: TRAINING"
                + " has fewer than k rows.");
        GainTrees x = rowsAlone();
        for (int far : FAR) {
            Check.throwsArgument("folds(" + far + ", 0, 1, 60)", () -> x.folds(far, 0, 1, 60));
            Check.throwsArgument("folds(2, " + far + ", 1, 60)", () -> x.folds(2, far, 1, 60));
            Check.throwsArgument("folds(2, 0, " + far + ", 60)", () -> x.folds(2, 0, far, 60));
            Check.throwsArgument("folds(2, 0, 1, " + far + ")", () -> x.folds(2, 0, 1, far));
        }
        int[][] beyond = {{1, 0, 1, 60}, {0, 0, 1, 60}, {-1, 0, 1, 60}, {11, 0, 1, 60}, {2, -1, 1, 60}, {2, 3, 1, 60},
            {2, 0, 0, 60}, {2, 0, 21, 60}, {2, 0, 1, -1}, {2, 0, 1, 61}};
        for (int[] n : beyond) {
            Check.throwsArgument("folds(" + n[0] + ", ..)", () -> x.folds(n[0], n[1], n[2], n[3]));
        }
        Check.due("as many rows as k", x.folds(3, 0, 1, 60), 3);
        Check.throwsState("one row less", () -> x.folds(4, 0, 1, 60));
        Check.due("leaves alone, by the first CLASS of two", x.folds(3, 2, 20, 0), 3);
        StringBuilder ten = new StringBuilder();
        for (int i = 0; i < 10; i++) {
            ten.append(i).append(i < 5 ? ",p,a;" : ",p,b;");
        }
        GainTrees y = Check.bench(NAMES, ten.toString());
        // without 4 the CUT is 3, without others 4, so 4 alone is taken for a b
        Check.due("ten of ten", y.folds(10, 0, 1, 60), 1);
        Check.due("leaves: each goes where the others are more", y.folds(10, 0, 1, 0), 10);
        GainTrees z = Check.bench(NAMES, ten.substring(0, ten.length() - 6));
        Check.throwsState("ten of nine", () -> z.folds(10, 0, 1, 60));
        Check.due("nine of nine", z.folds(9, 0, 1, 60), 1);
        Check.due("two of nine", z.folds(2, 0, 1, 60), 1);
        GainTrees w = Check.bench(NAMES, "1,p,a;1,p,a;1,p,b;1,p,a;1,p,a;");
        Check.due("f is 0 or 1: the one b once", w.folds(2, 0, 1, 0), 1);
        Check.due("f is 0, 1 or 2: the one b once", w.folds(3, 0, 1, 0), 1);
        z.clear(0);
        Check.throwsState("two of none", () -> z.folds(2, 0, 1, 60));
        Check.tape(z, "1,p,a;").rows(0);
        Check.throwsState("two of one", () -> z.folds(2, 0, 1, 60));
        Check.tape(z, "2,p,b;").rows(0);
        Check.due("two of two", z.folds(2, 0, 1, 60), 2);
    }

    private static void foldsKeep() {
        Check.sentence("19", "The tree and RULES stay.");
        GainTrees x = whole();
        String before = Check.state(x);
        for (int mode = 0; mode < 3; mode++) {
            Check.due("folds", x.folds(2, mode, 1, 60) > 0, true);
        }
        Check.due("its state", Check.state(x), before);
        GainTrees z = whole();
        Check.due("tree()", Check.tape(z, "by x<=2 is a else by x<=3 is b else is c").tree(), 5);
        String read = Check.state(z);
        Check.due("folds", z.folds(2, 0, 1, 60) > 0, true);
        Check.due("a tree that was read", Check.state(z), read);
        GainTrees y = rowsAlone();
        y.folds(2, 0, 1, 60);
        Check.due("no tree comes", y.count(4), 0);
        Check.throwsState("no tree comes", () -> y.rules());
    }

    // ---- promises 20 to 25
    private static void rules() {
        Check.sentence("20", "RULES are made: how many. IllegalStateException: there is no tree.");
        GainTrees x = new GainTrees();
        Check.throwsState("a new object", () -> x.rules());
        GainTrees y = rowsAlone();
        Check.throwsState("rows alone", () -> y.rules());
        Check.due("count(6)", y.count(6), -1);
        y.grow(0, 1, 60);
        Check.due("rules()", y.rules(), 3);
        Check.due("rules() once more", y.rules(), 3);
        Check.due("count(5)", y.count(5), 3);
        y.clear(0);
        Check.due("rules() without rows", y.rules(), 0);
        Check.due("count(6)", y.count(6), 0);
        Check.due("they were made", y.errors(1, 1), 2);
        Check.tape(y, NAMES).names();
        Check.throwsState("behind names()", () -> y.rules());
    }

    private static void rule() {
        Check.sentence("21", "NoSuchElementException: no such RULE, or what.");
        GainTrees x = whole();
        for (int far : FAR) {
            Check.throwsNoElement("rule(" + far + ", 0)", () -> x.rule(far, 0));
            Check.throwsNoElement("rule(0, " + far + ")", () -> x.rule(0, far));
        }
        for (int none : new int[] {-1, 4, 5, 10}) {
            Check.throwsNoElement("rule(0, " + none + ")", () -> x.rule(0, none));
        }
        Check.throwsNoElement("rule(-1, 0)", () -> x.rule(-1, 0));
        Check.throwsNoElement("rule(3, 0)", () -> x.rule(3, 0));
        Check.due("the last one, the last part", x.rule(2, 3), 1);
        Check.sentence("21", "how many of TRAINING it COVERED, 3 of these of its CLASS, when RULES were made");
        x.clear(0);
        Check.due("rule(2, 2)", x.rule(2, 2), 1);
        Check.due("rule(2, 3)", x.rule(2, 3), 1);
        Check.tape(x, ROWS + ROWS).rows(0);
        Check.due("rule(2, 2)", x.rule(2, 2), 1);
    }

    private static void condition() {
        Check.sentence("22", "NoSuchElementException: no such RULE, CONDITION, or what.");
        GainTrees x = whole();
        for (int far : FAR) {
            Check.throwsNoElement("condition(" + far + ", 0, 0)", () -> x.condition(far, 0, 0));
            Check.throwsNoElement("condition(0, " + far + ", 0)", () -> x.condition(0, far, 0));
            Check.throwsNoElement("condition(0, 0, " + far + ")", () -> x.condition(0, 0, far));
        }
        Check.throwsNoElement("condition(-1, 0, 0)", () -> x.condition(-1, 0, 0));
        Check.throwsNoElement("condition(3, 0, 0)", () -> x.condition(3, 0, 0));
        Check.throwsNoElement("condition(0, -1, 0)", () -> x.condition(0, -1, 0));
        Check.throwsNoElement("condition(0, 0, -1)", () -> x.condition(0, 0, -1));
        Check.throwsNoElement("condition(0, 0, 3)", () -> x.condition(0, 0, 3));
        for (int r = 0; r < 3; r++) {
            int rule = r;
            int many = x.rule(r, 1);
            Check.due("the last one", x.condition(r, many - 1, 0), 0);
            Check.throwsNoElement("behind the last one of RULE " + r, () -> x.condition(rule, many, 0));
        }
    }

    private static void write() {
        Check.sentence("23", "IllegalArgumentException: another what. IllegalStateException: there is no tree, or (what 1) RULES"
                + " were not made of it.");
        GainTrees x = rowsAlone();
        for (int far : FAR) {
            Check.throwsArgument("write(" + far + ")", () -> x.write(far));
        }
        Check.throwsArgument("write(-1)", () -> x.write(-1));
        Check.throwsArgument("write(2)", () -> x.write(2));
        Check.throwsState("write(0)", () -> x.write(0));
        Check.throwsState("write(1)", () -> x.write(1));
        x.grow(0, 1, 60);
        Check.throwsState("write(1) without RULES", () -> x.write(1));
        Check.due("count(8)", x.count(8), 0);
        Check.due("write(0)", Check.written(x, 0), "by x <= 1 is a else by x <= 2 is b else is c");
        x.rules();
        Check.due("write(1)", Check.written(x, 1),
                "if x <= 1 then a; if x > 1 and x <= 2 then b; if x > 2 then c; else a;");
        x.grow(0, 1, 60);
        Check.throwsState("write(1) of RULES of another tree", () -> x.write(1));
        Check.due("the RESULT stays", x.count(8), 70);
    }

    private static void letter() {
        Check.sentence("24", "Byte i of the RESULT; NONE without.");
        GainTrees x = new GainTrees();
        Check.due("letter(0) of none", x.letter(0), -1);
        GainTrees y = whole();
        Check.tape(y, "is c").tree();
        Check.due("write(0)", y.write(0), 4);
        int[] want = {'i', 's', ' ', 'c', -1, -1};
        for (int i = 0; i < 6; i++) {
            Check.due("letter(" + i + ")", y.letter(i), want[i]);
        }
        for (int i : new int[] {-1, 20, 3999, 4000, 5999, 6000, 6001}) {
            Check.due("letter(" + i + ")", y.letter(i), -1);
        }
        for (int far : FAR) {
            Check.due("letter(" + far + ")", y.letter(far), -1);
        }
    }

    private static void count() {
        Check.sentence("25", "10 + k VALUES of ATTRIBUTE k (0 of a MEASURED one). NONE for others; 6 the DEFAULT (NONE when"
                + " RULES were not made)");
        GainTrees x = whole();
        int[] want = {3, 2, 3, 2, 5, 3, 0, 0, 70, 3, 0, 3, -1};
        for (int what = 0; what < want.length; what++) {
            Check.due("count(" + what + ")", x.count(what), want[what]);
        }
        for (int what : new int[] {-1, -2, 12, 13, 17, 18, 19, 20, 26}) {
            Check.due("count(" + what + ")", x.count(what), -1);
        }
        for (int far : FAR) {
            Check.due("count(" + far + ")", x.count(far), -1);
        }
        x.grow(0, 1, 60);
        Check.due("count(6) behind grow()", x.count(6), -1);
        GainTrees y = Check.bench("classes a,b;c0:p,q;c1:p,q;c2:p,q;c3:p,q;c4:p,q;c5:p,q;c6:measured;c7:a,b,c,d,e,f,g,h;", "");
        Check.due("count(16)", y.count(16), 0);
        Check.due("count(17)", y.count(17), 8);
        Check.due("count(18)", y.count(18), -1);
        Check.due("count(9) without a tree", y.count(9), 0);
        Check.append(y, "12345");
        Check.due("count(7)", y.count(7), 5);
        y.end(2);
        Check.due("count(7)", y.count(7), 2);
    }

    // ---- a call that throws
    private static void refused(String call, String exception, GainTrees x, Callable<Object> made) {
        Check.tape(x, "1,p");
        String before = Check.state(x);
        Check.due(call, Check.answer(made), exception);
        Check.due("the state behind " + call, Check.state(x), before);
        if (x.count(4) > 0) {
            Check.due("the bytes of the TAPE behind " + call, x.decide(0), 0);
        }
    }

    private static void refusedCallsChangeNothing() {
        Check.sentence("V", "A call that throws changes nothing but what is told");
        String argument = "IllegalArgumentException";
        String element = "NoSuchElementException";
        String state = "IllegalStateException";
        for (int i = 0; i < 24; i++) {
            GainTrees x = whole();
            Callable<?>[] calls = {() -> x.rows(2), () -> x.rows(-1), () -> x.clear(2), () -> x.row(2, 0, 0),
                () -> x.grow(3, 1, 60), () -> x.grow(0, 21, 60), () -> x.grow(0, 1, 61), () -> x.decide(2),
                () -> x.tried(2, 0, 0, 0), () -> x.tried(0, 2, 0, 0), () -> x.errors(2, 0), () -> x.errors(0, 2),
                () -> x.folds(11, 0, 1, 60), () -> x.folds(2, 3, 1, 60), () -> x.write(2),
                () -> x.row(0, 3, 0), () -> x.node(5, 0), () -> x.node(0, 6), () -> x.compare(0, 2, 0, 0, 0),
                () -> x.gain(0, 0, 0, 2), () -> x.rule(3, 0), () -> x.condition(0, 9, 0),
                () -> x.compare(5, 0, 0, 0, 0), () -> x.folds(4, 0, 1, 60)};
            Callable<?> call = calls[i];
            refused("call " + i, i < 15 ? argument : i < 23 ? element : state, x, () -> call.call());
        }
        GainTrees x = whole();
        x.clear(0);
        refused("grow() without rows", state, x, () -> x.grow(0, 1, 60));
        GainTrees y = whole();
        y.clear(0);
        refused("compare() without rows", state, y, () -> y.compare(0, 0, 0, 0, 0));
        GainTrees z = whole();
        z.grow(0, 1, 60);
        refused("write() without RULES", state, z, () -> z.write(1));
        GainTrees w = whole();
        w.grow(0, 1, 60);
        refused("decide() without RULES", state, w, () -> w.decide(1));
        GainTrees v = whole();
        v.clear(0);
        refused("gain() without rows", state, v, () -> v.gain(0, 0, 0, 0));
    }

    private static void refusedCallsOfANewObject() {
        Check.sentence("6, 11", "IllegalStateException: there are no names (the TAPE stays)");
        GainTrees x = new GainTrees();
        refused("rows(0)", "IllegalStateException", x, () -> x.rows(0));
        refused("rows(1)", "IllegalStateException", x, () -> x.rows(1));
        refused("tree()", "IllegalStateException", x, () -> x.tree());
        refused("prune()", "IllegalStateException", x, () -> x.prune());
        refused("rules()", "IllegalStateException", x, () -> x.rules());
        refused("write(0)", "IllegalStateException", x, () -> x.write(0));
        refused("decide(0)", "IllegalStateException", x, () -> x.decide(0));
        refused("grow()", "IllegalStateException", x, () -> x.grow(0, 1, 60));
        Check.due("the bytes that stay", x.names(), -1);
        Check.due("begin with no WORD", x.fault(1), 0);
        GainTrees y = Check.tape(new GainTrees(), "is a");
        Check.throwsState("tree() ahead of names", () -> y.tree());
        Check.append(y, " is b");
        Check.throwsState("rows() ahead of names", () -> y.rows(0));
        Check.due("the TAPE has both", y.count(7), 9);
    }

    private static void firstExceptionTold() {
        Check.sentence("V", "of several exceptions the first one told behind \"throws\"");
        GainTrees x = new GainTrees();
        Check.throwsArgument("rows(2) without names", () -> x.rows(2));
        Check.throwsArgument("row(2, 0, 0) without rows", () -> x.row(2, 0, 0));
        Check.throwsArgument("grow(3, 1, 60) without rows", () -> x.grow(3, 1, 60));
        Check.throwsArgument("grow(0, 0, 60) without rows", () -> x.grow(0, 0, 60));
        Check.throwsArgument("grow(0, 1, 61) without rows", () -> x.grow(0, 1, 61));
        Check.throwsArgument("decide(2) without a tree", () -> x.decide(2));
        Check.throwsArgument("tried(2, 0, 0, 0) without a tree", () -> x.tried(2, 0, 0, 0));
        Check.throwsArgument("tried(0, 2, 0, 0) without a tree", () -> x.tried(0, 2, 0, 0));
        Check.throwsArgument("errors(2, 0) without a tree", () -> x.errors(2, 0));
        Check.throwsArgument("errors(0, 2) without a tree", () -> x.errors(0, 2));
        Check.throwsArgument("folds(11, 0, 1, 60) without rows", () -> x.folds(11, 0, 1, 60));
        Check.throwsArgument("folds(2, 3, 1, 60) without rows", () -> x.folds(2, 3, 1, 60));
        Check.throwsArgument("write(2) without a tree", () -> x.write(2));
        Check.throwsState("node(-1, 99) without a tree", () -> x.node(-1, 99));
        Check.throwsState("compare(-1, ..) without a tree", () -> x.compare(-1, 9, 0, 9, 0));
        Check.throwsState("gain(-1, ..) without a tree", () -> x.gain(-1, 9, 0, 9));
        GainTrees y = whole();
        y.clear(0);
        Check.throwsState("compare() by no ATTRIBUTE without ROWS", () -> y.compare(0, 9, 0, -1, 0));
        Check.throwsState("gain() by no ATTRIBUTE without ROWS", () -> y.gain(0, 9, 0, 0));
        Check.throwsState("gain() of no such what without ROWS", () -> y.gain(0, 0, 0, 9));
        Check.throwsState("folds of none", () -> y.folds(10, 2, 20, 60));
    }
}
