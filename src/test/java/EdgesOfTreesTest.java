/** Terms II and III, sentence by sentence: splits, modes, grown, read and pruned trees at their bounds. */
public final class EdgesOfTreesTest {
    private static final String NAMES = "classes a,b,c;x:measured;y:p,q,r;";

    private EdgesOfTreesTest() {
    }

    public static void main(String[] args) {
        classOfMost();
        classWithoutRows();
        childOfTheCut();
        leastRows();
        leastOfValues();
        cutsAreNumbersOfRows();
        cutsOfTheNodeAlone();
        nothingOfNothing();
        logarithms();
        gainOfNothing();
        gainsAreRealNumbers();
        gainsThatLTurnsRound();
        squaresWithoutRows();
        notBelowTheMean();
        firstOfSeveral();
        ratioOfSeveral();
        oneClass();
        depths();
        noSplit();
        numbersOfNodes();
        laterRows();
        decidedAsTold();
        deepestWays();
        deepestPruning();
        asManyErrors();
        prunedWithoutRows();
        prunedUpwards();
        prunedClass();
        numberedAnew();
        Check.end("EdgesOfTreesTest");
    }

    private static GainTrees read(String rows, String tree) {
        GainTrees x = Check.bench(NAMES, rows);
        Check.due("tree() of " + tree, Check.tape(x, tree).tree() > 0, true);
        return x;
    }

    private static void grows(String names, String rows, int mode, int least, int depth, String tree) {
        GainTrees x = Check.bench(names, rows);
        int nodes = x.grow(mode, least, depth);
        Check.due("mode " + mode + ", least " + least + ", depth " + depth + " of " + rows, Check.written(x, 0), tree);
        Check.due("count(4)", x.count(4), nodes);
    }

    private static void inAllModes(String names, String rows, int least, String tree) {
        for (int mode = 0; mode < 3; mode++) {
            grows(names, rows, mode, least, 60, tree);
        }
    }

    // ---- II. splits
    private static void classOfMost() {
        Check.sentence("II", "Its CLASS is that of most of them, the first of several");
        String six = "classes a,b,c,d,e,f;x:p,q;";
        inAllModes(six, "p,f;p,e;p,d;p,c;p,b;p,a;", 1, "is a");
        inAllModes(six, "p,f;p,e;p,f;p,e;p,a;", 1, "is e");
        inAllModes(six, "p,f;p,e;p,f;p,e;p,a;p,f;", 1, "is f");
        inAllModes(six, "p,f;", 1, "is f");
        inAllModes(six, "p,b;p,c;", 1, "is b");
        GainTrees x = read("1,p,c;2,p,b;3,q,c;4,q,b;", "by y{p:is a q:is a r:is a}");
        Check.due("of a node that was read", x.node(0, 2), 1);
        Check.due("of a leaf as told", x.node(1, 2), 0);
    }

    private static void classWithoutRows() {
        Check.sentence("II", "without ROWS its parent's (the tree's first NODE: CLASS 0)");
        grows("classes a,b,c;x:p,q,r;", "p,c;p,c;q,b;", 0, 1, 60, "by x { p: is c q: is b r: is c }");
        grows("classes a,b,c;x:p,q,r;", "p,c;q,b;", 0, 1, 60, "by x { p: is c q: is b r: is b }");
        grows("classes a,b,c;x:measured;y:p,q,r;", "1,p,a;1,p,a;1,p,a;9,p,c;9,p,c;9,q,b;", 0, 1, 60,
                "by x <= 1 is a else by y { p: is c q: is b r: is c }");
        GainTrees x = read("", "by x<=0 by x<=-1 is b else is c else is b");
        Check.due("the first node", x.node(0, 2), 0);
        Check.due("a node below it", x.node(1, 2), 0);
        Check.due("prune()", x.prune(), 2);
        Check.due("written", Check.written(x, 0), "is a");
        GainTrees y = read("1,p,c;", "by x<=5 is a else by x<=7 by y{p:is a q:is a r:is a} else is a");
        Check.due("its rows", y.node(2, 3), 0);
        Check.due("its class", y.node(2, 2), 2);
        Check.due("of one below it too", y.node(3, 2), 2);
        GainTrees z = Check.bench(NAMES, "1,p,c;");
        z.clear(0);
        Check.tape(z, "by x<=0 is b else is b").tree();
        Check.due("behind clear()", z.node(0, 2), 0);
    }

    private static void childOfTheCut() {
        Check.sentence("II", "child 0 the ROWS whose number is not above the CUT, child 1 the others");
        GainTrees x = read("-0.001,p,a;0,p,a;0.001,p,b;-1000000,p,a;1000000,p,b;", "by x<=0 is a else is b");
        Check.due("child 0", x.node(1, 3), 3);
        Check.due("child 1", x.node(2, 3), 2);
        String[][] rows = {{"0", "0"}, {"-0.001", "0"}, {"0.001", "1"}, {"1000000", "1"}, {"-1000000", "0"}};
        for (String[] row : rows) {
            Check.due("decide(0) of " + row[0], Check.tape(x, row[0] + ",r").decide(0), row[1].charAt(0) - '0');
        }
        GainTrees y = read("1000000,p,a;-1000000,p,b;", "by x<=1000000 by x<=-1000000 is b else is a else is c");
        Check.due("at the greatest cut", y.errors(0, 0), 0);
        Check.due("none above it", y.node(4, 3), 0);
    }

    private static void leastRows() {
        Check.sentence("II", "A SPLIT MAY BE, if at least two of its CHILDREN have LEAST ROWS or more each");
        String names = "classes a,b;x:measured;";
        StringBuilder rows = new StringBuilder();
        for (int i = 1; i <= 40; i++) {
            rows.append(i).append(i <= 20 ? ",a;" : ",b;");
        }
        inAllModes(names, rows.toString(), 20, "by x <= 20 is a else is b");
        inAllModes(names, rows.substring(0, rows.length() - 5), 20, "is a");
        inAllModes(names, rows.substring(0, rows.length() - 5), 19, "by x <= 20 is a else is b");
        inAllModes(names, "1,a;2,b;", 1, "by x <= 1 is a else is b");
        inAllModes(names, "1,a;2,b;", 2, "is a");
        inAllModes(names, "1,a;2,b;3,b;", 2, "is b");
        inAllModes(names, "1,a;2,b;3,b;4,b;", 2, "by x <= 2 is a else is b");
    }

    private static void leastOfValues() {
        Check.sentence("II", "at least two of its CHILDREN");
        String names = "classes a,b;y:p,q,r,s;";
        inAllModes(names, "p,a;p,a;q,b;q,b;r,a;", 2, "by y { p: is a q: is b r: is a s: is a }");
        inAllModes(names, "p,a;p,a;q,b;r,a;", 2, "is a");
        inAllModes(names, "p,a;p,a;q,b;r,b;", 1, "by y { p: is a q: is b r: is b s: is a }");
        inAllModes(names, "p,a;p,b;p,b;p,b;", 1, "is b");
        inAllModes(names, "q,b;s,a;s,a;", 1, "by y { p: is a q: is b r: is a s: is a }");
        inAllModes(names, "q,b;q,b;s,a;s,a;", 2, "by y { p: is a q: is b r: is a s: is a }");
        inAllModes(names, "q,b;q,b;s,a;s,a;", 3, "is a");
    }

    private static void cutsAreNumbersOfRows() {
        Check.sentence("II", "and the CUT is a number that ROWS of the NODE have");
        String names = "classes a,b;x:measured;";
        inAllModes(names, "-1000000,a;1000000,b;", 1, "by x <= -1000000 is a else is b");
        inAllModes(names, "1000000,a;-1000000,b;", 1, "by x <= -1000000 is b else is a");
        inAllModes(names, "0,a;0.001,b;", 1, "by x <= 0 is a else is b");
        inAllModes(names, "-0.001,a;0,b;", 1, "by x <= -0.001 is a else is b");
        inAllModes(names, "5,a;5,b;5,b;", 1, "is b");
        inAllModes(names, "5,a;5,a;7,b;7,b;", 1, "by x <= 5 is a else is b");
        inAllModes(names, "0,a;7,b;0,a;", 1, "by x <= 0 is a else is b");
    }

    /** Below 5 there is a row of 1 and one of 5: the cut there is 1, although 2 to 4 would part them too. */
    private static void cutsOfTheNodeAlone() {
        Check.sentence("II", "ROWS of the NODE (not those of others)");
        String names = "classes a,b,c;y:p,q;x:measured;";
        String rows = "p,1,a;p,5,b;q,2,c;q,3,c;q,4,c;q,6,c;q,7,c;q,8,c;";
        for (int mode = 0; mode < 3; mode++) {
            grows(names, rows, mode, 1, 60, "by y { p: by x <= 1 is a else is b q: is c }");
        }
    }

    private static void nothingOfNothing() {
        Check.sentence("II", "E(x) .. (0 of 0)");
        GainTrees x = read("1,p,a;2,p,b;3,p,b;", "is a");
        for (int cut : new int[] {Integer.MIN_VALUE, -1, 0, 999, 3000, 3001, Integer.MAX_VALUE}) {
            Check.due("G of all rows in one child", x.gain(0, 0, cut, 0), 0);
            Check.due("W of all rows in one child", x.gain(0, 0, cut, 1), 0);
            Check.due("as by values, two of which no row has", x.compare(0, 0, cut, 1, cut), 0);
            Check.due("below a split of some", x.compare(0, 0, cut, 0, 1000), -1);
        }
        Check.due("G", x.gain(0, 1, 0, 0), 0);
        Check.due("W", x.gain(0, 1, 0, 1), 0);
        GainTrees y = read("1,p,a;", "is a");
        Check.due("of one row", y.compare(0, 0, 1000, 1, 0), 0);
        Check.due("G of one row", y.gain(0, 0, 1000, 0), 0);
        Check.due("W of one row", y.gain(0, 0, 1000, 1), 0);
    }

    /** W of i rows beside the rest of 200 tells L(i) for all i; G of them, with a class for each side, the same. */
    private static void logarithms() {
        Check.sentence("II", "L(x), for x from 1 on");
        StringBuilder rows = new StringBuilder();
        for (int i = 1; i <= 200; i++) {
            rows.append(i).append(i <= 100 ? ",a;" : ",b;");
        }
        GainTrees x = Check.bench("classes a,b;x:measured;", rows.toString());
        Check.due("tree()", Check.tape(x, "is a").tree(), 1);
        long all = 200 * Model.logOf(200);
        for (int i = 1; i < 200; i++) {
            long both = i * Model.logOf(i) + (200 - i) * Model.logOf(200 - i);
            Check.due("W of " + i, (long) x.gain(0, 0, 1000 * i, 1), all - both);
        }
        Check.due("G of the halves", (long) x.gain(0, 0, 100000, 0), all - 200 * Model.logOf(100));
        long[] known = {0, 65536, 103872, 131072, 152169, 169408, 183982, 196608, 207744, 217705};
        for (int i = 1; i <= 10; i++) {
            Check.due("L(" + i + ")", Model.logOf(i), known[i - 1]);
        }
        GainTrees y = read("1,p,a;2,p,b;", "is a");
        Check.due("L(1) is 0, L(2) is 1", y.gain(0, 0, 1000, 0), 131072);
        GainTrees z = read("1,p,a;2,p,a;3,p,b;", "is a");
        Check.due("3 L(3) less 2 L(2)", z.gain(0, 0, 2000, 1), 3 * 103872 - 131072);
        Check.due("G of both classes apart", z.gain(0, 0, 2000, 0), 3 * 103872 - 131072);
    }

    private static void gainOfNothing() {
        Check.sentence("II", "0 the SPLIT of the greatest GAIN (0 is a GAIN too)");
        inAllModes("classes a,b;x:p,q;", "p,a;p,b;q,a;q,b;", 1, "by x { p: is a q: is a }");
        inAllModes("classes a,b;x:measured;", "1,a;1,b;2,a;2,b;", 1, "by x <= 1 is a else is a");
        GainTrees x = read("1,p,a;1,p,b;2,q,a;2,q,b;", "is a");
        Check.due("as all in one child", x.compare(0, 0, 1000, 0, 5000), 0);
        Check.due("as by values", x.compare(0, 0, 1000, 1, 0), 0);
    }

    /** Parts of other sizes may gain the same: only whole numbers tell it, sums of logarithms are rounded. */
    private static void gainsAreRealNumbers() {
        Check.sentence("II", "It is the real number");
        GainTrees x = Check.bench("classes a,b;x:p,q;y:p,q,r,s;",
                "p,p,a;p,p,b;p,q,a;p,q,b;q,r,b;q,r,b;q,s,b;q,s,b;");
        Check.due("tree()", Check.tape(x, "is a").tree(), 1);
        Check.due("4^4 is 2^2 2^2 2^2 2^2", x.compare(0, 0, 0, 1, 0), 0);
        Check.due("G by x", x.gain(0, 0, 0, 0), x.gain(0, 1, 0, 0));
        GainTrees y = Check.bench("classes a,b,c;x:measured;", "1,a;2,b;3,c;4,c;5,b;6,a;");
        Check.due("tree()", Check.tape(y, "is a").tree(), 1);
        for (int i = 1; i < 6; i++) {
            Check.due("the same from both ends", y.compare(0, 0, 1000 * i, 0, 6000 - 1000 * i), 0);
        }
        // one row off leaves 5 log 5 less 4 log 2 (5.27), two halves leave 6 log 3 (6.59)
        Check.due("one row off gains more than two halves", y.compare(0, 0, 1000, 0, 3000), 1);
        Check.due("from the other side", y.compare(0, 0, 3000, 0, 1000), -1);
    }

    /** All rows of both classes: so many of each go to p of ATTRIBUTE u, so many to p of v; by names of u and v. */
    private static GainTrees twoSplits(int[] n, String attributes) {
        StringBuilder rows = new StringBuilder();
        for (int c = 0; c < 2; c++) {
            for (int i = 0; i < n[c]; i++) {
                for (int k = 0; k < attributes.length(); k++) {
                    int goes = attributes.charAt(k) == 'u' ? n[2 + c] : n[4 + c];
                    rows.append(i < goes ? "p," : "q,");
                }
                rows.append(c == 0 ? "a;" : "b;");
            }
        }
        StringBuilder names = new StringBuilder("classes a,b;");
        for (int k = 0; k < attributes.length(); k++) {
            names.append("x").append(k).append(":p,q;");
        }
        return Check.bench(names.toString(), rows.toString());
    }

    /**
     * The first split gains more, by whole numbers; by L the second one does. (44 a and 56 b: 29 a and 15 b apart, or
     * 9 a and 33 b: the sums differ by 10^-9.)
     */
    private static void gainsThatLTurnsRound() {
        Check.sentence("II", "MODES: 0 the SPLIT of the greatest GAIN .. (as real numbers)");
        int[][] cases = {{44, 56, 29, 15, 9, 33}, {88, 112, 58, 30, 18, 66}, {22, 177, 18, 175, 21, 115},
            {31, 168, 18, 93, 9, 53}, {77, 123, 49, 89, 32, 40}, {51, 148, 2, 11, 20, 69}, {25, 35, 15, 23, 7, 8},
            {35, 164, 15, 80, 26, 113}, {88, 111, 4, 5, 57, 72}, {55, 145, 53, 139, 6, 17}};
        for (int[] n : cases) {
            GainTrees x = twoSplits(n, "uv");
            Check.due("tree()", Check.tape(x, "is a").tree(), 1);
            Check.due("the first one gains more", x.compare(0, 0, 0, 1, 0), 1);
            Check.due("from the other side", x.compare(0, 1, 0, 0, 0), -1);
            Check.due("by L it is less", x.gain(0, 0, 0, 0) < x.gain(0, 1, 0, 0), true);
            String[] orders = {"uv", "vu", "vuv", "vvu"};
            int[] chosen = {0, 1, 1, 2};
            for (int i = 0; i < orders.length; i++) {
                GainTrees y = twoSplits(n, orders[i]);
                for (int mode = 0; mode < 2; mode++) {
                    Check.due("nodes", y.grow(mode, 1, 1), 3);
                    Check.due("by " + orders[i] + " in mode " + mode, y.node(0, 0), chosen[i]);
                }
            }
        }
    }

    private static void squaresWithoutRows() {
        Check.sentence("II", "GINI is the sum, for each child with ROWS");
        grows("classes a,b;y:p,q,r,s;z:p,q;", "p,p,a;p,p,a;q,q,b;", 2, 1, 60, "by y { p: is a q: is b r: is a s: is a }");
        grows("classes a,b;z:p,q;y:p,q,r,s,t,u,v,w;", "p,t,a;p,t,a;q,w,b;", 2, 1, 60, "by z { p: is a q: is b }");
        // by x: 2 + 1/1 = 3 of 4 rows; by z: 5/3 + 1/1
        grows("classes a,b;z:p,q;x:p,q,r;", "p,p,a;p,p,a;p,r,b;q,r,b;", 2, 1, 1, "by x { p: is a q: is a r: is b }");
    }

    private static void notBelowTheMean() {
        Check.sentence("II", "of these those whose GAIN is not below the mean of theirs");
        grows("classes a,b;x:p,q;", "p,a;p,b;q,a;q,b;", 1, 1, 60, "by x { p: is a q: is a }");
        grows("classes a,b;x:p,q;y:p,q;", "p,p,a;p,q,b;q,p,b;q,q,a;", 1, 1, 1, "by x { p: is a q: is a }");
        // all three tell the same: each is the mean, and that of two children has the greater ratio
        grows("classes a,b;u:p,q,r,s;v:p,q,r;w:p,q;", "p,p,p,a;q,p,p,a;r,q,q,b;s,r,q,b;", 1, 1, 1,
                "by w { p: is a q: is b }");
        // x tells all, y half: y is below the mean, though its ratio were above that of x
        grows("classes a,b;y:p,q;x:s0,s1,s2,s3,s4,s5,s6,s7;",
                "p,s0,a;p,s1,a;q,s2,a;q,s3,a;q,s4,b;q,s5,b;q,s6,b;q,s7,b;", 1, 1, 1,
                "by x { s0: is a s1: is a s2: is a s3: is a s4: is b s5: is b s6: is b s7: is b }");
        // beside a third one that tells nothing y is above the mean
        grows("classes a,b;y:p,q;x:s0,s1,s2,s3,s4,s5,s6,s7;z:p,q;",
                "p,s0,p,a;p,s1,q,a;q,s2,p,a;q,s3,q,a;q,s4,p,b;q,s5,q,b;q,s6,p,b;q,s7,q,b;", 1, 1, 1,
                "by x { s0: is a s1: is a s2: is a s3: is a s4: is b s5: is b s6: is b s7: is b }");
        grows("classes a,b;y:p,q;x:s0,s1,s2,s3,s4,s5,s6,s7;z:p,q;w:p,q;v:p,q;",
                "p,s0,p,p,p,a;p,s1,q,q,q,a;q,s2,p,p,p,a;q,s3,q,q,q,a;q,s4,p,p,p,b;q,s5,q,q,q,b;q,s6,p,p,p,b;q,s7,q,q,q,b;",
                1, 1, 1, "by y { p: is a q: is b }");
        Check.sentence("II", "of each ATTRIBUTE by which there is a SPLIT that may be (others count for no mean)");
        String byX = "by x { s0: is a s1: is a s2: is a s3: is a s4: is b s5: is b s6: is b s7: is b }";
        grows("classes a,b;y:p,q;x:s0,s1,s2,s3,s4,s5,s6,s7;z:p,q;w:measured;v:p,q;",
                "p,s0,p,1,p,a;p,s1,p,1,p,a;q,s2,p,1,p,a;q,s3,p,1,p,a;q,s4,p,1,p,b;q,s5,p,1,p,b;q,s6,p,1,p,b;q,s7,p,1,p,b;",
                1, 1, 1, byX);
        // with two of LEAST rows in two children that by x may not be, so y is the mean itself
        grows("classes a,b;y:p,q;x:s0,s1,s2,s3,s4,s5,s6,s7;",
                "p,s0,a;p,s1,a;q,s2,a;q,s3,a;q,s4,b;q,s5,b;q,s6,b;q,s7,b;", 1, 2, 1, "by y { p: is a q: is b }");
    }

    private static void firstOfSeveral() {
        Check.sentence("II", "Of several always the first by ATTRIBUTES, then by the lowest CUT.");
        inAllModes("classes a,b;x:measured;y:measured;", "1,2,a;2,1,b;", 1, "by x <= 1 is a else is b");
        inAllModes("classes a,b;y:p,q;x:measured;", "q,1,a;p,2,b;", 1, "by y { p: is b q: is a }");
        inAllModes("classes a,b;x:measured;y:p,q;", "1,q,a;2,p,b;", 1, "by x <= 1 is a else is b");
        for (int mode = 0; mode < 3; mode++) {
            grows("classes a,b;x:measured;", "1,a;2,b;3,a;4,b;", mode, 2, 60, "by x <= 2 is a else is a");
            grows("classes a,b;x:measured;", "3,a;1,a;2,b;", mode, 1, 1, "by x <= 1 is a else is a");
            grows("classes a,b;x:measured;", "-3,a;-1,a;-2,b;", mode, 1, 1, "by x <= -3 is a else is a");
            grows("classes a,b;x:measured;y:measured;", "4,1,a;3,2,b;2,3,b;1,4,a;", mode, 1, 1, "by x <= 1 is a else is b");
        }
    }

    private static void ratioOfSeveral() {
        Check.sentence("II", "of these the one of the greatest G / W");
        grows("classes a,b;u:p,q,r,s;w:p,q;v:p,q;", "p,p,q,a;q,p,q,a;r,q,p,b;s,q,p,b;", 1, 1, 1, "by w { p: is a q: is b }");
        grows("classes a,b;u:p,q,r;w:p,q,r,s;", "p,p,a;p,q,a;q,r,b;r,s,b;", 1, 1, 1, "by u { p: is a q: is b r: is b }");
        // of one ATTRIBUTE the CUT of the greatest GAIN comes, though a narrower one had the greater ratio
        grows("classes a,b;x:measured;", "1,a;2,a;3,a;4,b;5,b;6,a;7,b;8,b;", 1, 1, 1, "by x <= 3 is a else is b");
    }

    // ---- III. grown trees
    private static void oneClass() {
        Check.sentence("III", "a NODE is a LEAF, if all its ROWS are of one CLASS (or there are none)");
        inAllModes(NAMES, "1,p,c;2,q,c;3,r,c;", 1, "is c");
        inAllModes(NAMES, "1,p,b;", 1, "is b");
        for (int mode = 0; mode < 3; mode++) {
            grows("classes a,b;y:p,q,r;x:measured;", "p,1,a;p,2,b;r,1,b;r,2,b;r,3,b;r,4,b;", mode, 1, 60,
                    "by y { p: by x <= 1 is a else is b q: is b r: is b }");
        }
    }

    private static void depths() {
        Check.sentence("III", "DEPTH others are above it");
        String names = "classes a,b;x:measured;";
        String rows = "1,a;2,b;3,a;4,b;";
        grows(names, rows, 0, 1, 0, "is a");
        grows(names, rows, 0, 1, 1, "by x <= 1 is a else is b");
        grows(names, rows, 0, 1, 2, "by x <= 1 is a else by x <= 2 is b else is a");
        grows(names, rows, 0, 1, 3, "by x <= 1 is a else by x <= 2 is b else by x <= 3 is a else is b");
        grows(names, rows, 0, 1, 60, "by x <= 1 is a else by x <= 2 is b else by x <= 3 is a else is b");
        StringBuilder many = new StringBuilder();
        for (int i = 0; i < 200; i++) {
            many.append(i).append(i % 2 == 0 ? ",a;" : ",b;");
        }
        for (int depth : new int[] {59, 60}) {
            GainTrees x = Check.bench(names, many.toString());
            x.grow(0, 1, depth);
            int deepest = 0;
            for (int i = 0; i < x.count(4); i++) {
                deepest = Math.max(deepest, x.node(i, 5));
            }
            Check.due("the deepest", deepest, depth);
        }
    }

    private static void noSplit() {
        Check.sentence("III", "or no SPLIT may be; else it has the SPLIT of the MODE");
        inAllModes(NAMES, "1,p,a;1,p,b;1,p,c;1,p,b;", 1, "is b");
        inAllModes(NAMES, "1,p,a;2,q,b;", 2, "is a");
        inAllModes(NAMES, "1,p,a;1,q,b;", 1, "by y { p: is a q: is b r: is a }");
        inAllModes(NAMES, "1,p,a;2,p,b;", 1, "by x <= 1 is a else is b");
    }

    private static void numbersOfNodes() {
        Check.sentence("III", "NODES are numbered from 0 on, each ahead of its CHILDREN, these in order with all below them");
        GainTrees x = read("", "by y{p:by x<=1 is a else by x<=2 is b else is c q:is c r:by y{p:is a q:is b r:is c}}");
        int[][] children = {{1, 6, 7}, {2, 3}, {}, {4, 5}, {}, {}, {}, {8, 9, 10}, {}, {}, {}};
        int[] depth = {0, 1, 2, 2, 3, 3, 1, 1, 2, 2, 2};
        Check.due("count(4)", x.count(4), 11);
        Check.due("count(9)", x.count(9), 7);
        for (int i = 0; i < 11; i++) {
            int node = i;
            Check.due("children of " + i, x.node(i, 4), children[i].length);
            Check.due("above " + i, x.node(i, 5), depth[i]);
            for (int j = 0; j < children[i].length; j++) {
                Check.due("child " + j + " of " + i, x.node(i, 10 + j), children[i][j]);
            }
            int none = 10 + children[i].length;
            Check.throwsNoElement("one child more of " + i, () -> x.node(node, none));
        }
    }

    private static void laterRows() {
        Check.sentence("III", "A tree that is read has at each NODE the ROWS of TRAINING that come there (as TRAINING is"
                + " then); so has a grown one; later ROWS change neither.");
        for (int grown = 0; grown < 2; grown++) {
            GainTrees x = Check.bench(NAMES, "1,p,a;2,p,b;3,p,b;");
            Check.due("nodes", grown == 1 ? x.grow(0, 1, 60) : Check.tape(x, "by x<=1 is a else is b").tree(), 3);
            Check.tape(x, "0,p,c;0,p,c;0,p,c;0,p,c;").rows(0);
            Check.due("rows of node 0", x.node(0, 3), 3);
            Check.due("its class", x.node(0, 2), 1);
            Check.due("of class c", x.node(1, 22), 0);
            x.clear(0);
            Check.due("rows of node 2", x.node(2, 3), 2);
            Check.due("of class b", x.node(2, 21), 2);
            Check.tape(x, "9,p,c;").rows(1);
            Check.due("rows held out are none of its", x.node(2, 3), 2);
            Check.due("prune()", x.prune(), 1);
            Check.due("its rows of before", x.node(0, 3), 3);
            Check.due("its class of before", x.node(0, 2), 1);
        }
    }

    private static void decidedAsTold() {
        Check.sentence("III", "it is DECIDED as that LEAF's CLASS (of a tree that was read: as told there)");
        GainTrees x = read("1,p,a;1,p,a;2,q,b;", "by y{p:is c q:is a r:is b}");
        Check.due("p", Check.tape(x, "1,p").decide(0), 2);
        Check.due("q", Check.tape(x, "1,q").decide(0), 0);
        Check.due("r, to which no row came", Check.tape(x, "1,r").decide(0), 1);
        Check.due("node(1, 2)", x.node(1, 2), 2);
        Check.due("errors(0, 0)", x.errors(0, 0), 3);
        GainTrees y = read("1,p,a;", "is c");
        Check.due("a LEAF alone", Check.tape(y, "9,q").decide(0), 2);
        Check.due("its class", y.node(0, 2), 2);
        Check.due("its row of class a", y.node(0, 20), 1);
    }

    /** Sixty forks, one in another: by a CUT to the left, to the right, by VALUES in the first child, in the last. */
    private static void deepestWays() {
        Check.sentence("III", "A row comes from NODE 0 on to the CHILD that it would be in, to a LEAF (60 are above it)");
        String[] ahead = {"by x<=0 ", "by x<=0 is a else ", "by y{p:", "by y{p:is a q:is b r:"};
        String[] behind = {" else is b", "", " q:is b r:is a}", "}"};
        String[] rows = {"0,r", "0.001,p", "9,p", "9,r"};
        int[] last = {60, 120, 60, 180};
        for (int sort = 0; sort < 4; sort++) {
            String text = ahead[sort].repeat(60) + "is c" + behind[sort].repeat(60);
            GainTrees x = read(rows[sort] + ",c;", text);
            int leaf = last[sort];
            Check.due("above it", x.node(leaf, 5), 60);
            Check.due("its class", x.node(leaf, 2), 2);
            Check.due("its rows", x.node(leaf, 3), 1);
            Check.due("rows of its parent", x.node(leaf - (sort == 1 ? 2 : sort == 3 ? 3 : 1), 3), 1);
            Check.due("decide(0)", Check.tape(x, rows[sort]).decide(0), 2);
            Check.due("errors(0, 0)", x.errors(0, 0), 0);
            Check.due("tried(0, 0, 2, 2)", x.tried(0, 0, 2, 2), 1);
            Check.due("ROWS come there now", x.compare(leaf, 0, 0, 1, 0), 0);
            Check.due("sixty CONDITIONS go", x.rules(), 1);
            Check.due("rule(0, 1)", x.rule(0, 1), 0);
            int nodes = x.count(4);
            int bytes = x.write(0);
            Check.due("again()", x.again(), bytes);
            Check.due("tree() of what was written", x.tree(), nodes);
            Check.due("its rows", x.node(leaf, 3), 1);
            Check.due("prune()", x.prune(), 60);
        }
    }

    /** x <= 0, x <= 1 and so on to x <= 59; two rows are just ahead of the last fork's cut, one is above it. */
    private static void deepestPruning() {
        Check.sentence("III", "than by what is below it by then (60 are above the LEAVES)");
        StringBuilder text = new StringBuilder();
        for (int i = 0; i < 60; i++) {
            text.append("by x<=").append(i).append(" is a else ");
        }
        String[] held = {"99,p,b;", "99,p,c;", "59,p,a;"};
        int[] goes = {60, 0, 60};
        for (int i = 0; i < 3; i++) {
            GainTrees x = held("59,p,a;59,p,a;99,p,c;", text + "is c", held[i]);
            Check.due("rows of the last fork", x.node(118, 3), 3);
            Check.due("rows of the last leaf", x.node(120, 3), 1);
            Check.due("rules()", x.rules(), 2);
            Check.due("the last way's rule", Check.written(x, 1), "if x <= 59 then a; if x > 59 then c; else a;");
            Check.due("prune() by " + held[i], x.prune(), goes[i]);
            Check.due("count(4)", x.count(4), goes[i] == 0 ? 121 : 1);
        }
    }

    // ---- III. pruned trees
    private static GainTrees held(String rows, String tree, String holdout) {
        GainTrees x = read(rows, tree);
        Check.due("rows(1)", Check.tape(x, holdout).rows(1) > 0, true);
        return x;
    }

    private static void asManyErrors() {
        Check.sentence("III", "if of the rows of HOLDOUT that come to it as many or fewer are ERRORS so");
        String rows = "1,p,a;1,p,a;9,p,b;";
        String tree = "by x<=5 is a else is b";
        GainTrees more = held(rows, tree, "1,p,a;9,p,b;");
        Check.due("one to none", more.prune(), 0);
        Check.due("it stays", Check.written(more, 0), "by x <= 5 is a else is b");
        GainTrees asMany = held(rows, tree, "1,p,a;9,p,b;9,p,a;");
        Check.due("one to one", asMany.prune(), 1);
        Check.due("it goes", Check.written(asMany, 0), "is a");
        GainTrees fewer = held(rows, tree, "9,p,a;9,p,a;9,p,b;");
        Check.due("one to two", fewer.prune(), 1);
        GainTrees none = held(rows, tree, "1,p,a;");
        Check.due("none to none", none.prune(), 1);
        GainTrees all = held(rows, tree, "1,p,c;9,p,c;");
        Check.due("two to two", all.prune(), 1);
        GainTrees third = held(rows, tree, "1,p,a;9,p,b;9,p,c;");
        Check.due("two to one", third.prune(), 0);
    }

    private static void prunedWithoutRows() {
        Check.sentence("III", "(PRUNED by no rows: none are ERRORS, as many as below)");
        GainTrees x = Weather.grown();
        Check.due("HOLDOUT is empty", x.prune(), 3);
        Check.due("one leaf", Check.written(x, 0), "is yes");
        GainTrees y = held("1,p,a;2,p,a;3,p,b;4,p,c;", "by x<=2 by x<=1 is a else is a else by x<=3 is b else is c",
                "3,p,b;4,p,c;1,p,a;");
        Check.due("to node 1 one comes, to node 4 two", y.prune(), 1);
        Check.due("pruned", Check.written(y, 0), "by x <= 2 is a else by x <= 3 is b else is c");
        GainTrees z = Check.bench(NAMES, "1,p,a;");
        z.grow(0, 1, 60);
        Check.due("a LEAF alone", z.prune(), 0);
        Check.due("it stays", Check.written(z, 0), "is a");
    }

    /** Below the first fork is one that goes first: then the upper one has as many errors as what is below it. */
    private static void prunedUpwards() {
        Check.sentence("III", "from the last one to the first .. than by what is below it by then");
        GainTrees x = held("1,p,a;2,p,a;3,p,b;4,p,b;4,p,b;", "by x<=2 is a else by x<=3 is b else is c", "1,p,a;4,p,b;4,p,c;");
        // node 2 as b: one error, as below it; then node 0 as b: two to one
        Check.due("prune()", x.prune(), 1);
        Check.due("pruned", Check.written(x, 0), "by x <= 2 is a else is b");
        GainTrees y = held("1,p,a;2,p,a;3,p,b;4,p,b;4,p,b;", "by x<=2 is b else by x<=3 is b else is c", "1,p,a;4,p,b;");
        // node 2 as b: none to one; by then node 0 as b has one error as below it
        Check.due("prune()", y.prune(), 2);
        Check.due("pruned", Check.written(y, 0), "is b");
        GainTrees z = held("1,p,a;2,p,a;3,p,b;4,p,b;4,p,b;", "by x<=2 is a else by x<=3 is b else is c", "1,p,a;4,p,b;");
        Check.due("prune()", z.prune(), 1);
        Check.due("by then none below", Check.written(z, 0), "by x <= 2 is a else is b");
    }

    private static void prunedClass() {
        Check.sentence("III", "each becomes a LEAF of its CLASS");
        GainTrees x = held("1,p,c;2,p,c;9,p,b;", "by x<=5 is a else is a", "1,p,a;9,p,a;9,p,c;9,p,c;");
        Check.due("two to two", x.prune(), 1);
        Check.due("as its rows, not as its leaves", Check.written(x, 0), "is c");
        Check.due("node(0, 2)", x.node(0, 2), 2);
        Check.due("node(0, 0)", x.node(0, 0), -1);
        Check.due("node(0, 1)", x.node(0, 1), 0);
        Check.due("node(0, 4)", x.node(0, 4), 0);
        Check.throwsNoElement("no child", () -> x.node(0, 10));
        Check.due("decide(0)", Check.tape(x, "9,p").decide(0), 2);
    }

    private static void numberedAnew() {
        Check.sentence("III", "Then NODES are numbered anew.");
        GainTrees x = held("1,p,a;2,q,b;3,q,b;4,r,c;", "by y{p:by x<=1 is a else is a q:by x<=2 is b else is c r:is c}",
                "2,q,b;3,q,c;1,p,a;4,r,c;");
        Check.due("prune()", x.prune(), 1);
        Check.due("pruned", Check.written(x, 0), "by y { p: is a q: by x <= 2 is b else is c r: is c }");
        int[][] want = {{1, 0, 1, 4, 3, 0}, {-1, 0, 0, 1, 0, 1}, {0, 2000, 1, 2, 2, 1}, {-1, 0, 1, 1, 0, 2},
            {-1, 0, 2, 1, 0, 2}, {-1, 0, 2, 1, 0, 1}};
        for (int i = 0; i < 6; i++) {
            for (int what = 0; what < 6; what++) {
                Check.due("node(" + i + ", " + what + ")", x.node(i, what), want[i][what]);
            }
        }
        int[][] classes = {{1, 2, 1}, {1, 0, 0}, {0, 2, 0}, {0, 1, 0}, {0, 1, 0}, {0, 0, 1}};
        for (int i = 0; i < 6; i++) {
            for (int c = 0; c < 3; c++) {
                Check.due("node(" + i + ", " + (20 + c) + ")", x.node(i, 20 + c), classes[i][c]);
            }
        }
        Check.due("child 2 of 0", x.node(0, 12), 5);
        Check.due("child 0 of 2", x.node(2, 10), 3);
        Check.throwsNoElement("no node 6", () -> x.node(6, 0));
        Check.due("count(4)", x.count(4), 6);
        Check.due("count(9)", x.count(9), 4);
        Check.due("nothing more to prune", x.prune(), 0);
    }
}
