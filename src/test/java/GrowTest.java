/** Promises 10 and 13: grow() in its modes, and node(). */
public final class GrowTest {
    private GrowTest() {
    }

    public static void main(String[] args) {
        weather();
        nodesOfWeather();
        leavesAtOnce();
        firstOfSeveral();
        modesDiffer();
        meanShutsOut();
        squares();
        leastRows();
        depthBound();
        gainOfNothingSplitsToo();
        childWithoutRows();
        laterRowsChangeNothing();
        refusals();
        nodeRefusals();
        Check.end("GrowTest");
    }

    private static void grows(String names, String rows, int mode, int least, int depth, String tree) {
        GainTrees x = Check.bench(names, rows);
        int nodes = x.grow(mode, least, depth);
        Check.due("the tree of mode " + mode + " of " + rows, Check.written(x, 0), tree);
        Check.due("count(4)", x.count(4), nodes);
    }

    private static void weather() {
        for (int mode = 0; mode < 3; mode++) {
            GainTrees x = Check.bench(Weather.NAMES, Weather.ROWS);
            Check.due("grow", x.grow(mode, 1, 60), 8);
            Check.due("its tree in mode " + mode, Check.written(x, 0), Weather.TREE);
        }
    }

    private static void nodesOfWeather() {
        GainTrees x = Weather.grown();
        int[][] want = {{0, 0, 1, 14, 3, 0}, {2, 70000, 0, 5, 2, 1}, {-1, 0, 1, 2, 0, 2}, {-1, 0, 0, 3, 0, 2},
            {-1, 0, 1, 4, 0, 1}, {3, 0, 1, 5, 2, 1}, {-1, 0, 1, 3, 0, 2}, {-1, 0, 0, 2, 0, 2}};
        int[][] counts = {{5, 9}, {3, 2}, {0, 2}, {3, 0}, {0, 4}, {2, 3}, {0, 3}, {2, 0}};
        int[][] children = {{1, 4, 5}, {2, 3}, {}, {}, {}, {6, 7}, {}, {}};
        for (int i = 0; i < 8; i++) {
            int node = i;
            for (int what = 0; what < 6; what++) {
                Check.due("node(" + i + ", " + what + ")", x.node(i, what), want[i][what]);
            }
            Check.due("node(" + i + ", 20)", x.node(i, 20), counts[i][0]);
            Check.due("node(" + i + ", 21)", x.node(i, 21), counts[i][1]);
            for (int j = 0; j < children[i].length; j++) {
                Check.due("node(" + i + ", " + (10 + j) + ")", x.node(i, 10 + j), children[i][j]);
            }
            int none = 10 + children[i].length;
            Check.throwsNoElement("no such child", () -> x.node(node, none));
        }
        Check.due("leaves", x.count(9), 5);
    }

    private static void leavesAtOnce() {
        grows("classes a,b;x:measured;", "1,b;2,b;3,b;", 0, 1, 60, "is b");
        grows("classes a,b;x:measured;", "1,b;", 1, 1, 60, "is b");
        grows("classes a,b,c;x:measured;", "1,c;1,b;1,c;1,b;1,a;", 0, 1, 60, "is b");
        grows("classes a,b,c;x:p,q;", "p,c;p,b;p,c;", 2, 1, 60, "is c");
    }

    private static void firstOfSeveral() {
        for (int mode = 0; mode < 3; mode++) {
            grows("classes a,b;x:measured;y:measured;", "1,1,a;2,2,b;", mode, 1, 60, "by x <= 1 is a else is b");
            grows("classes a,b;y:p,q;x:measured;", "p,1,a;q,2,b;", mode, 1, 60, "by y { p: is a q: is b }");
            grows("classes a,b;x:measured;", "4,a;3,b;2,b;1,a;", mode, 1, 1, "by x <= 1 is a else is b");
        }
    }

    /** Both attributes tell all; that with a value for each row has the greater width. */
    private static void modesDiffer() {
        String names = "classes a,b;id:p,q,r,s;y:p,q;";
        String rows = "p,p,a;q,p,a;r,q,b;s,q,b;";
        String byId = "by id { p: is a q: is a r: is b s: is b }";
        grows(names, rows, 0, 1, 60, byId);
        grows(names, rows, 1, 1, 60, "by y { p: is a q: is b }");
        grows(names, rows, 2, 1, 60, byId);
    }

    /** By z the ratio would be greater (0.38 to 0.33), but its gain (0.31) is below the mean (0.66). */
    private static void meanShutsOut() {
        String rows = "a,p,k;b,p,k;c,q,k;d,q,k;e,q,l;f,q,l;g,q,l;h,q,l;";
        grows("classes k,l;id:a,b,c,d,e,f,g,h;z:p,q;", rows, 1, 1, 1,
                "by id { a: is k b: is k c: is k d: is k e: is l f: is l g: is l h: is l }");
        grows("classes k,l;z:p,q;", "p,k;p,k;q,k;q,k;q,l;q,l;q,l;q,l;", 1, 1, 1, "by z { p: is k q: is l }");
    }

    /** Of two a and five b, z takes one of each off (squares 2/2 + 17/5), w one b (1/1 + 20/6): w gains more. */
    private static void squares() {
        String rows = "p,q,a;q,q,a;p,q,b;q,p,b;q,q,b;q,q,b;q,q,b;";
        grows("classes a,b;z:p,q;w:p,q;", rows, 2, 1, 1, "by z { p: is a q: is b }");
        grows("classes a,b;z:p,q;w:p,q;", rows, 0, 1, 1, "by w { p: is b q: is b }");
        String turned = "q,p,a;q,q,a;q,p,b;p,q,b;q,q,b;q,q,b;q,q,b;";
        grows("classes a,b;w:p,q;z:p,q;", turned, 2, 1, 1, "by z { p: is a q: is b }");
        grows("classes a,b;w:p,q;z:p,q;", turned, 0, 1, 1, "by w { p: is b q: is b }");
    }

    private static void leastRows() {
        String names = "classes a,b;x:measured;";
        String rows = "1,a;2,b;3,b;4,b;5,b;6,b;";
        grows(names, rows, 0, 1, 60, "by x <= 1 is a else is b");
        grows(names, rows, 0, 2, 60, "by x <= 2 is a else is b");
        grows(names, rows, 0, 3, 60, "by x <= 3 is b else is b");
        grows(names, rows, 0, 4, 60, "is b");
        grows(names, rows, 0, 20, 60, "is b");
        grows("classes a,b;y:p,q,r;", "p,a;p,a;q,b;q,b;r,a;", 0, 2, 60, "by y { p: is a q: is b r: is a }");
        grows("classes a,b;y:p,q,r;", "p,a;p,a;q,b;r,b;r,a;", 0, 3, 60, "is a");
        grows("classes a,b;y:p,q,r;", "p,a;p,a;p,b;q,b;r,a;", 0, 2, 60, "is a");
    }

    private static void depthBound() {
        GainTrees x = Check.bench(Weather.NAMES, Weather.ROWS);
        Check.due("depth 0", x.grow(0, 1, 0), 1);
        Check.due("its leaf", Check.written(x, 0), "is yes");
        Check.due("depth 1", x.grow(0, 1, 1), 4);
        Check.due("its tree", Check.written(x, 0), "by outlook { sunny: is no overcast: is yes rain: is yes }");
        Check.due("depth 2", x.grow(0, 1, 2), 8);
        StringBuilder rows = new StringBuilder();
        for (int i = 0; i < 130; i++) {
            rows.append(i).append(i % 2 == 0 ? ",a;" : ",b;");
        }
        GainTrees y = Check.bench("classes a,b;x:measured;", rows.toString());
        y.grow(0, 1, 60);
        int deepest = 0;
        for (int i = 0; i < y.count(4); i++) {
            deepest = Math.max(deepest, y.node(i, 5));
        }
        Check.due("the deepest node", deepest, 60);
    }

    private static void gainOfNothingSplitsToo() {
        for (int mode = 0; mode < 3; mode++) {
            grows("classes a,b;x:p,q;y:p,q;", "p,p,a;p,q,b;q,p,b;q,q,a;", mode, 1, 60,
                    "by x { p: by y { p: is a q: is b } q: by y { p: is b q: is a } }");
        }
    }

    private static void childWithoutRows() {
        GainTrees x = Check.bench("classes a,b,c;x:p,q,r;", "p,b;p,b;r,c;");
        x.grow(0, 1, 60);
        Check.due("the tree", Check.written(x, 0), "by x { p: is b q: is b r: is c }");
        Check.due("rows of the empty one", x.node(2, 3), 0);
        Check.due("its class", x.node(2, 2), 1);
        Check.due("its rows of class 1", x.node(2, 21), 0);
    }

    private static void laterRowsChangeNothing() {
        GainTrees x = Weather.grown();
        Check.tape(x, "rain,1,1,true,no;rain,1,1,true,no;rain,1,1,true,no;").rows(0);
        Check.due("rows of node 0", x.node(0, 3), 14);
        Check.due("class of node 5", x.node(5, 2), 1);
        x.clear(0);
        Check.due("rows of node 0", x.node(0, 3), 14);
        Check.due("rows of class 0", x.node(0, 20), 5);
    }

    private static void refusals() {
        GainTrees x = Weather.grown();
        x.rules();
        int[][] wrong = {{-1, 1, 1}, {3, 1, 1}, {0, 0, 1}, {0, 21, 1}, {0, 1, -1}, {0, 1, 61}};
        for (int[] w : wrong) {
            Check.throwsArgument("grow(" + w[0] + ", " + w[1] + ", " + w[2] + ")", () -> x.grow(w[0], w[1], w[2]));
        }
        Check.due("rules stay then", x.count(5), 5);
        Check.due("the tree too", x.count(4), 8);
        x.clear(0);
        Check.throwsState("grow without rows", () -> x.grow(0, 1, 60));
        Check.throwsArgument("both wrong", () -> x.grow(3, 1, 60));
        Check.due("rules stay then", x.count(5), 5);
        Check.tape(x, "rain,1,1,true,no;").rows(0);
        Check.due("grow(2, 20, 60)", x.grow(2, 20, 60), 1);
        Check.due("no rules then", x.count(5), 0);
        Check.due("none", x.count(6), -1);
        Check.throwsState("rules of another tree", () -> x.write(1));
    }

    private static void nodeRefusals() {
        GainTrees x = Weather.grown();
        for (int node : new int[] {-1, 8, 1000, Integer.MIN_VALUE, Integer.MAX_VALUE}) {
            Check.throwsNoElement("node(" + node + ", 0)", () -> x.node(node, 0));
        }
        for (int what : new int[] {-1, 6, 9, 13, 18, 19, 22, 26, Integer.MIN_VALUE, Integer.MAX_VALUE}) {
            Check.throwsNoElement("node(0, " + what + ")", () -> x.node(0, what));
        }
    }
}
