/** Promises 20 to 23 and 25: rules(), rule(), condition(), write() and count(). */
public final class RulesTest {
    private RulesTest() {
    }

    private static final String NAMES = "classes a,b,c;x:measured;y:p,q,r;z:measured;";

    public static void main(String[] args) {
        conditionsGo();
        partsOfRules();
        greatestWorthFirst();
        sameRuleStaysOnce();
        allConditionsGo();
        firstOfSeveralGoes();
        greatestGoes();
        orderByCovered();
        defaults();
        asTrainingIsNow();
        refusals();
        writing();
        writeRefusals();
        counting();
        Check.end("RulesTest");
    }

    private static GainTrees read(String rows, String tree) {
        GainTrees x = Check.bench(NAMES, rows);
        Check.due("tree() of " + tree, Check.tape(x, tree).tree() > 0, true);
        return x;
    }

    private static GainTrees makes(String rows, String tree, int many, String rules) {
        GainTrees x = read(rows, tree);
        Check.due("rules of " + tree, x.rules(), many);
        Check.due("count(5)", x.count(5), many);
        Check.due("rules of " + tree, Check.written(x, 1), rules);
        return x;
    }

    private static final String SIX = "1,p,0,a;2,p,0,a;3,p,0,b;4,p,0,b;6,p,0,b;7,p,0,b;";
    private static final String SIX_TREE = "by x<=5 by x<=2 is a else is b else is b";

    /** x <= 5 and x > 2: 3/4, without x <= 5 it is 5/6; x <= 5 and x <= 2: 3/4 with and without x <= 5. */
    private static void conditionsGo() {
        makes(SIX, SIX_TREE, 3, "if x > 2 then b; if x <= 2 then a; if x > 5 then b; else b;");
        GainTrees x = Weather.grown();
        Check.due("rules", x.rules(), 5);
        Check.due("of the weather", Check.written(x, 1), "if outlook = overcast then yes; "
                + "if outlook = sunny and humidity > 70 then no; if outlook = rain and windy = false then yes; "
                + "if outlook = sunny and humidity <= 70 then yes; if outlook = rain and windy = true then no; else yes;");
    }

    private static void partsOfRules() {
        GainTrees x = makes(SIX, SIX_TREE, 3, "if x > 2 then b; if x <= 2 then a; if x > 5 then b; else b;");
        int[][] want = {{1, 1, 4, 4}, {0, 1, 2, 2}, {1, 1, 2, 2}};
        int[][] condition = {{0, 1, 2000}, {0, 0, 2000}, {0, 1, 5000}};
        x.clear(0);
        for (int r = 0; r < 3; r++) {
            for (int what = 0; what < 4; what++) {
                Check.due("rule(" + r + ", " + what + ")", x.rule(r, what), want[r][what]);
            }
            for (int what = 0; what < 3; what++) {
                Check.due("condition(" + r + ", 0, " + what + ")", x.condition(r, 0, what), condition[r][what]);
            }
        }
        Check.due("count(6)", x.count(6), 1);
    }

    /** 2/3 of one row, 5/6 of four, 3/4 of two, in the order of the leaves. */
    private static void greatestWorthFirst() {
        makes("1,p,0,a;1,q,0,b;1,q,0,b;1,q,0,b;1,q,0,b;1,r,0,c;1,r,0,c;", "by y{p:is a q:is b r:is c}", 3,
                "if y = q then b; if y = r then c; if y = p then a; else b;");
    }

    private static void sameRuleStaysOnce() {
        String rows = "1,p,0,a;1,q,0,a;3,p,0,b;3,q,0,b;";
        GainTrees x = makes(rows, "by y{p:by x<=2 is a else is b q:by x<=2 is a else is b r:is c}", 2,
                "if x <= 2 then a; if x > 2 then b; else a;");
        Check.due("rule(0, 2)", x.rule(0, 2), 2);
        makes(rows, "by y{p:by x<=2 is a else is b q:by x<=2 is c else is b r:is c}", 3,
                "if x <= 2 then a; if x > 2 then b; if y = q and x <= 2 then c; else a;");
        makes("1,p,0,a;3,p,0,b;", "by x<=2 is c else is c", 2, "if x <= 2 then c; if x > 2 then c; else a;");
    }

    private static void allConditionsGo() {
        GainTrees x = makes("1,p,0,a;2,p,0,a;", "by x<=1 is a else is a", 1, "then a; else a;");
        Check.due("rule(0, 1)", x.rule(0, 1), 0);
        Check.due("rule(0, 2)", x.rule(0, 2), 2);
        Check.throwsNoElement("no condition", () -> x.condition(0, 0, 0));
        makes("1,p,0,a;2,p,0,b;", "by x<=5 by x<=1 is a else is a else is b", 2, "if x <= 1 then a; then a; else a;");
        makes("1,p,0,a;3,p,0,b;", "by x<=2 is c else by x<=3 is a else is c", 2, "then a; if x <= 2 then c; else a;");
        makes("1,p,0,b;", "is b", 1, "then b; else b;");
        makes("1,p,0,b;", "is c", 1, "then c; else b;");
    }

    /** x and z are alike, so either may go: the first one does. */
    private static void firstOfSeveralGoes() {
        makes("1,p,1,a;2,p,2,a;3,p,3,b;4,p,4,b;", "by x<=2 by z<=2 is a else is b else by z<=2 is a else is b", 2,
                "if z <= 2 then a; if z > 2 then b; else a;");
        makes("1,p,1,a;2,p,2,a;3,p,3,b;4,p,4,b;", "by z<=2 by x<=2 is a else is b else by x<=2 is a else is b", 2,
                "if x <= 2 then a; if x > 2 then b; else a;");
    }

    /** Of x <= 5 and z <= 2 (2/3) without x <= 5 it is 2/3 too, without z <= 2 it is 3/4. */
    private static void greatestGoes() {
        GainTrees x = makes("1,p,1,a;1,p,3,a;9,p,9,b;9,p,9,b;", "by x<=5 by z<=2 is a else is c else is b", 3,
                "if x <= 5 then a; if x > 5 then b; if x <= 5 and z > 2 then c; else a;");
        Check.due("rule(0, 3)", x.rule(0, 3), 2);
    }

    /** 2/3 of one row and 4/6 of four: the latter is ahead. */
    private static void orderByCovered() {
        makes("1,p,0,a;1,q,0,b;1,q,0,b;1,q,0,b;1,q,0,a;", "by y{p:is a q:is b r:is c}", 2,
                "if y = q then b; if y = p then a; else b;");
        makes("1,p,0,a;1,q,0,b;", "by y{p:is a q:is b r:is c}", 2, "if y = p then a; if y = q then b; else a;");
    }

    private static void defaults() {
        GainTrees x = read("1,p,0,c;1,q,0,b;1,q,0,b;1,p,0,c;", "is a");
        Check.due("no default", x.count(6), -1);
        x.rules();
        Check.due("the first of several", x.count(6), 1);
        GainTrees y = read("", "by x<=0 is b else is c");
        Check.due("rules without rows", y.rules(), 0);
        Check.due("class 0", y.count(6), 0);
        Check.due("written", Check.written(y, 1), "else a;");
        Check.throwsNoElement("no rule", () -> y.rule(0, 0));
    }

    private static void asTrainingIsNow() {
        GainTrees x = Check.bench(NAMES, "1,p,0,a;2,p,0,b;");
        x.grow(0, 1, 60);
        Check.due("rules", x.rules(), 2);
        x.clear(0);
        Check.tape(x, "7,p,0,b;8,p,0,b;9,p,0,a;").rows(0);
        Check.due("the rules stay", Check.written(x, 1), "if x <= 1 then a; if x > 1 then b; else a;");
        Check.due("rules made anew", x.rules(), 1);
        Check.due("written", Check.written(x, 1), "then b; else b;");
        Check.due("rule(0, 2)", x.rule(0, 2), 3);
        Check.due("rule(0, 3)", x.rule(0, 3), 2);
    }

    private static void refusals() {
        GainTrees x = makes(SIX, SIX_TREE, 3, "if x > 2 then b; if x <= 2 then a; if x > 5 then b; else b;");
        for (int r : new int[] {-1, 3, Integer.MIN_VALUE, Integer.MAX_VALUE}) {
            Check.throwsNoElement("rule " + r, () -> x.rule(r, 0));
            Check.throwsNoElement("condition of rule " + r, () -> x.condition(r, 0, 0));
        }
        for (int what : new int[] {-1, 4, Integer.MIN_VALUE, Integer.MAX_VALUE}) {
            Check.throwsNoElement("rule what " + what, () -> x.rule(0, what));
            Check.throwsNoElement("condition what " + what, () -> x.condition(0, 0, what));
            Check.throwsNoElement("condition " + what, () -> x.condition(0, what, 0));
        }
        Check.throwsNoElement("condition what 3", () -> x.condition(0, 0, 3));
        Check.throwsNoElement("condition 1", () -> x.condition(0, 1, 0));
        GainTrees y = Check.bench(NAMES, SIX);
        Check.throwsState("rules without a tree", () -> y.rules());
        Check.throwsNoElement("rule without any", () -> y.rule(0, 0));
    }

    private static void writing() {
        GainTrees x = read("1,p,0,a;1,q,0,b;", "by y{p:by x<=-0.5is a else is b q:by z<=-12.340 is c else is a r:is b}");
        Check.due("the tree", Check.written(x, 0),
                "by y { p: by x <= -0.5 is a else is b q: by z <= -12.34 is c else is a r: is b }");
        Check.due("again()", x.again(), x.count(8));
        Check.due("tree()", x.tree(), 8);
        String[][] numbers = {{"0", "0"}, {"-0", "0"}, {"0.1", "0.1"}, {"0.010", "0.01"}, {"0.001", "0.001"},
            {"-0.001", "-0.001"}, {"100", "100"}, {"0100.500", "100.5"}, {"999999.999", "999999.999"},
            {"-1000000", "-1000000"}, {"1000000.000", "1000000"}, {"10", "10"}, {"7.05", "7.05"}, {"-20.300", "-20.3"}};
        for (String[] number : numbers) {
            GainTrees y = read("", "by x<=" + number[0] + " is a else is b");
            Check.due("written", Check.written(y, 0), "by x <= " + number[1] + " is a else is b");
        }
        GainTrees z = makes("-1.5,p,-2,a;-1.5,p,0,b;1,p,-2,b;1,p,0,b;", "by x<=-1.5 by z<=-1 is a else is b else is b",
                3, "if z > -1 then b; if x > -1.5 then b; if x <= -1.5 and z <= -1 then a; else b;");
        Check.due("condition(2, 1, 2)", z.condition(2, 1, 2), -1000);
        Check.due("condition(2, 0, 1)", z.condition(2, 0, 1), 0);
        Check.due("condition(0, 0, 1)", z.condition(0, 0, 1), 1);
        GainTrees w = makes("1,p,0,a;1,q,0,b;", "by y{p:is a q:is b r:is c}", 2,
                "if y = p then a; if y = q then b; else a;");
        Check.due("condition(1, 0, 0)", w.condition(1, 0, 0), 1);
        Check.due("condition(1, 0, 1)", w.condition(1, 0, 1), 2);
        Check.due("condition(1, 0, 2)", w.condition(1, 0, 2), 1);
    }

    private static void writeRefusals() {
        GainTrees x = Check.bench(NAMES, SIX);
        Check.throwsArgument("write(2)", () -> x.write(2));
        Check.throwsArgument("write(-1)", () -> x.write(-1));
        Check.throwsState("write(0)", () -> x.write(0));
        Check.throwsState("write(1)", () -> x.write(1));
        x.grow(0, 1, 60);
        Check.throwsState("write(1) without rules", () -> x.write(1));
        Check.due("write(0)", x.write(0), 24);
        Check.throwsState("write(1) without rules", () -> x.write(1));
        Check.due("the result stays", Check.result(x), "by x <= 2 is a else is b");
        x.rules();
        x.prune();
        Check.throwsState("rules go with the tree", () -> x.write(1));
    }

    private static void counting() {
        GainTrees x = Check.bench(NAMES, SIX);
        Check.tape(x, "1,p,0,a;").rows(1);
        x.grow(0, 1, 60);
        x.rules();
        x.write(1);
        Check.append(x, "tape");
        int[] want = {3, 3, 6, 1, 3, 2, 1, 4, 42, 2, 0, 3, 0};
        for (int what = 0; what < want.length; what++) {
            Check.due("count(" + what + ")", x.count(what), want[what]);
        }
        for (int what : new int[] {-1, 13, 17, 18, 100, Integer.MIN_VALUE, Integer.MAX_VALUE}) {
            Check.due("count(" + what + ")", x.count(what), -1);
        }
    }
}
