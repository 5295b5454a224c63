/** Promises 16 to 19: decide(), tried(), errors() and folds(). */
public final class DecideTest {
    private DecideTest() {
    }

    private static final String NAMES = "classes a,b,c;x:measured;y:p,q,r;";

    public static void main(String[] args) {
        byTree();
        byRules();
        rowTextFaults();
        decideRefusals();
        triedOnWeather();
        triedByClasses();
        errorsOfTables();
        triedRefusals();
        foldsCount();
        foldsKeepAll();
        foldsRefusals();
        Check.end("DecideTest");
    }

    private static void decides(GainTrees x, String row, int by, int want) {
        Check.due("decide(" + by + ") of " + row, Check.tape(x, row).decide(by), want);
        Check.due("fault(0)", x.fault(0), 0);
        Check.due("fault(1)", x.fault(1), -1);
        Check.due("count(7)", x.count(7), 0);
    }

    private static void byTree() {
        GainTrees x = Weather.grown();
        decides(x, "sunny,70,60,true", 0, 1);
        decides(x, "sunny,70,70,true", 0, 1);
        decides(x, "sunny,70,70.001,true", 0, 0);
        decides(x, "sunny,-1000000,1000000,false", 0, 0);
        decides(x, " overcast , -0.5,\n0 ,true ", 0, 1);
        decides(x, "rain,70.5,-3.25,true", 0, 0);
        decides(x, "rain,70.5,-3.25,false", 0, 1);
        GainTrees y = Check.bench(NAMES, "1,p,a;2,q,b;");
        Check.tape(y, "by y{p:is c q:by x<=-1 is b else is a r:is b}").tree();
        decides(y, "5,p", 0, 2);
        decides(y, "-1,q", 0, 1);
        decides(y, "-0.999,q", 0, 0);
        decides(y, "0,r", 0, 1);
    }

    private static void byRules() {
        GainTrees x = Check.bench(NAMES, "1,p,a;2,q,b;3,q,b;4,q,b;5,q,a;");
        Check.tape(x, "by y{p:is a q:is b r:is c}").tree();
        Check.due("rules", x.rules(), 2);
        decides(x, "9,p", 1, 0);
        decides(x, "9,q", 1, 1);
        decides(x, "9,r", 1, 1);
        decides(x, "9,r", 0, 2);
        x.clear(0);
        decides(x, "9,r", 1, 1);
        Check.due("rules without rows", x.rules(), 0);
        decides(x, "9,q", 1, 0);
    }

    private static void bad(GainTrees x, String row, int kind, int place) {
        for (int by = 0; by < 2; by++) {
            Check.due("decide(" + by + ") of " + row, Check.tape(x, row).decide(by), -1);
            Check.due("fault(0) of " + row, x.fault(0), kind);
            Check.due("fault(1) of " + row, x.fault(1), place);
            Check.due("count(7)", x.count(7), 0);
        }
    }

    private static void rowTextFaults() {
        GainTrees x = Check.bench(NAMES, "1,p,a;2,q,b;");
        x.grow(0, 1, 60);
        x.rules();
        bad(x, "", 1, 0);
        bad(x, "  ", 1, 2);
        bad(x, "1", 1, 1);
        bad(x, "1,", 1, 2);
        bad(x, "1;p", 1, 1);
        bad(x, "1,p;", 1, 3);
        bad(x, "1,p,", 1, 3);
        bad(x, "1,p,a", 1, 3);
        bad(x, "p,1", 1, 0);
        bad(x, "1,1", 1, 2);
        bad(x, "1,s", 2, 2);
        bad(x, "1,a", 2, 2);
        bad(x, "1,by", 2, 2);
        bad(x, "1000000.5,p", 3, 0);
        bad(x, "-1000000.5,?", 3, 0);
        bad(x, "12345678,p", 1, 0);
        bad(x, "1,pppppppppppppp", 1, 2);
        Check.due("no row comes", x.count(2), 2);
    }

    private static void decideRefusals() {
        GainTrees x = Check.bench(NAMES, "1,p,a;2,q,b;");
        Check.tape(x, "1,p");
        Check.throwsArgument("decide(2) without a tree", () -> x.decide(2));
        Check.throwsState("decide(0) without a tree", () -> x.decide(0));
        Check.throwsState("decide(1) without a tree", () -> x.decide(1));
        Check.due("the tape stays", x.count(7), 3);
        x.grow(0, 1, 60);
        Check.throwsArgument("decide(-1)", () -> x.decide(-1));
        Check.throwsState("decide(1) without rules", () -> x.decide(1));
        Check.due("the tape stays", x.count(7), 3);
        Check.due("decide(0)", x.decide(0), 0);
        x.rules();
        Check.due("decide(1)", Check.tape(x, "1,p").decide(1), 0);
        x.grow(0, 1, 60);
        Check.throwsState("rules were made of another tree", () -> x.decide(1));
    }

    private static void triedOnWeather() {
        GainTrees x = Weather.grownAndHeld();
        Check.due("rules()", x.rules(), 5);
        // columns: d none, 0, 1, 2; rows: c none, 0, 1, 2
        int[][] training = {{14, 5, 9, 0}, {5, 5, 0, 0}, {9, 0, 9, 0}, {0, 0, 0, 0}};
        int[][] held = {{5, 2, 3, 0}, {3, 1, 2, 0}, {2, 1, 1, 0}, {0, 0, 0, 0}};
        for (int by = 0; by < 2; by++) {
            for (int c = -1; c <= 2; c++) {
                for (int d = -1; d <= 2; d++) {
                    String call = by + ", " + c + ", " + d + ")";
                    Check.due("tried(0, " + call, x.tried(0, by, c, d), training[c + 1][d + 1]);
                    Check.due("tried(1, " + call, x.tried(1, by, c, d), held[c + 1][d + 1]);
                }
            }
            Check.due("errors(0)", x.errors(0, by), 0);
            Check.due("errors(1)", x.errors(1, by), 3);
            for (int other : new int[] {-2, 6, Integer.MIN_VALUE, Integer.MAX_VALUE}) {
                Check.due("no such class", x.tried(0, by, other, -1), 0);
                Check.due("no such class", x.tried(0, by, -1, other), 0);
                Check.due("no such class", x.tried(0, by, other, other), 0);
            }
        }
    }

    private static void triedByClasses() {
        GainTrees x = Check.bench(NAMES, "1,p,a;1,p,b;1,p,c;1,q,c;1,q,c;1,r,a;");
        Check.tape(x, "by y{p:is a q:is c r:is b}").tree();
        int[][] want = {{1, 1, 0}, {1, 0, 0}, {1, 0, 2}};
        for (int c = 0; c < 3; c++) {
            for (int d = 0; d < 3; d++) {
                Check.due("tried(0, 0, " + c + ", " + d + ")", x.tried(0, 0, c, d), want[c][d]);
            }
        }
        Check.due("all as c", x.tried(0, 0, -1, 2), 2);
        Check.due("c as any", x.tried(0, 0, 2, -1), 3);
        Check.due("errors", x.errors(0, 0), 3);
    }

    private static void errorsOfTables() {
        GainTrees x = Check.bench(NAMES, "1,p,a;2,q,b;3,q,b;4,q,b;5,q,a;");
        Check.tape(x, "by y{p:is a q:is b r:is c}").tree();
        x.rules();
        Check.due("of training by the tree", x.errors(0, 0), 1);
        Check.due("of training by rules", x.errors(0, 1), 1);
        Check.due("of no rows", x.errors(1, 0), 0);
        Check.tape(x, "1,r,c;1,r,b;1,r,c;").rows(1);
        Check.due("of holdout by the tree", x.errors(1, 0), 1);
        Check.due("of holdout by rules", x.errors(1, 1), 2);
    }

    private static void triedRefusals() {
        GainTrees x = Check.bench(NAMES, "1,p,a;2,q,b;");
        Check.throwsArgument("tried of set 2", () -> x.tried(2, 0, 0, 0));
        Check.throwsArgument("tried by 2", () -> x.tried(0, 2, 0, 0));
        Check.throwsArgument("errors of set -1", () -> x.errors(-1, 0));
        Check.throwsArgument("errors by -1", () -> x.errors(0, -1));
        Check.throwsState("tried without a tree", () -> x.tried(0, 0, 0, 0));
        Check.throwsState("errors without a tree", () -> x.errors(1, 0));
        x.grow(0, 1, 60);
        Check.throwsState("tried without rules", () -> x.tried(0, 1, 9, 9));
        Check.throwsState("errors without rules", () -> x.errors(1, 1));
        Check.due("tried", x.tried(0, 0, 0, 0), 1);
        Check.due("errors", x.errors(0, 0), 0);
    }

    private static void foldsCount() {
        GainTrees x = Check.bench("classes a,b;x:measured;", "1,a;2,a;3,b;");
        Check.due("without 1: right; without 2: cut 1; without 3: a alone", x.folds(3, 0, 1, 60), 2);
        Check.due("leaves alone", x.folds(3, 0, 1, 0), 1);
        Check.due("by least", x.folds(3, 0, 2, 60), 1);
        Check.due("of two: from 2a without 1a, 3b; from 1a, 3b without 2a", x.folds(2, 0, 1, 60), 2);
        GainTrees y = Check.bench("classes a,b;id:p,q,r,s;y:p,q;", "p,p,a;q,p,a;r,q,b;s,q,b;");
        Check.due("by id: an unknown one gets the class of most others", y.folds(4, 0, 1, 60), 4);
        Check.due("by the ratio", y.folds(4, 1, 1, 60), 0);
        Check.due("by squares", y.folds(4, 2, 1, 60), 4);
    }

    private static void foldsKeepAll() {
        GainTrees x = Weather.grownAndHeld();
        x.rules();
        int wrong = x.folds(10, 0, 1, 60);
        Check.due("the same once more", x.folds(10, 0, 1, 60), wrong);
        Check.due("the tree stays", Check.written(x, 0), Weather.TREE);
        Check.due("the rules stay", x.count(5), 5);
        Check.due("the rows stay", x.count(2), 14);
        Check.due("rows of node 5", x.node(5, 3), 5);
        GainTrees y = Check.bench(Weather.NAMES, Weather.ROWS);
        Check.due("as with a tree", y.folds(10, 0, 1, 60), wrong);
        Check.due("no tree comes", y.count(4), 0);
    }

    private static void foldsRefusals() {
        GainTrees x = Check.bench("classes a,b;x:measured;", "1,a;2,a;3,b;");
        for (int k : new int[] {-1, 0, 1, 11, Integer.MIN_VALUE, Integer.MAX_VALUE}) {
            Check.throwsArgument("folds " + k, () -> x.folds(k, 0, 1, 60));
        }
        int[][] wrong = {{-1, 1, 1}, {3, 1, 1}, {0, 0, 1}, {0, 21, 1}, {0, 1, -1}, {0, 1, 61}};
        for (int[] w : wrong) {
            Check.throwsArgument("folds", () -> x.folds(2, w[0], w[1], w[2]));
            Check.throwsArgument("ahead of too few rows", () -> x.folds(10, w[0], w[1], w[2]));
        }
        Check.throwsState("fewer rows than folds", () -> x.folds(4, 0, 1, 60));
        Check.due("as many", x.folds(3, 0, 20, 60), 1);
    }
}
