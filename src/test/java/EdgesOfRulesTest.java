/** Terms IV and V, sentence by sentence: rules and what is written, at their bounds. */
public final class EdgesOfRulesTest {
    private static final String NAMES = "classes a,b,c;x:measured;y:p,q,r;z:measured;";

    private EdgesOfRulesTest() {
    }

    public static void main(String[] args) {
        leavesWithRows();
        trainingAsItIsThen();
        wayFromTheFirstNode();
        covers();
        worth();
        notLess();
        withoutWhichItIsGreatest();
        firstConditionOfSeveral();
        noConditionLeft();
        sameConditionsTwice();
        sameRules();
        likeRulesThatDiffer();
        orderedByWorth();
        orderedByCovered();
        orderedAsTheyCame();
        defaultOfAll();
        decidedByTheFirst();
        decidedByTheDefault();
        deepRules();
        blanksOfTrees();
        blanksOfRules();
        writtenNumbers();
        signsOfConditions();
        Check.end("EdgesOfRulesTest");
    }

    private static GainTrees read(String rows, String tree) {
        GainTrees x = Check.bench(NAMES, rows);
        Check.due("tree() of " + tree, Check.tape(x, tree).tree() > 0, true);
        return x;
    }

    private static GainTrees makes(String rows, String tree, int many, String rules) {
        GainTrees x = read(rows, tree);
        Check.due("rules of " + tree, x.rules(), many);
        Check.due("rules of " + tree, Check.written(x, 1), rules);
        return x;
    }

    // ---- IV. rules
    private static void leavesWithRows() {
        Check.sentence("IV", "for each LEAF to which ROWS come now .. a RULE");
        makes("1,p,0,a;1,p,0,a;1,q,0,b;1,q,0,b;", "by y{p:is a q:is b r:is c}", 2, "if y = p then a; if y = q then b; else a;");
        makes("1,r,0,c;", "by y{p:is a q:is b r:is c}", 1, "then c; else c;");
        makes("", "by y{p:is a q:is b r:is c}", 0, "else a;");
        makes("", "is c", 0, "else a;");
        makes("1,p,0,c;", "is c", 1, "then c; else c;");
    }

    private static void trainingAsItIsThen() {
        Check.sentence("IV", "made of a tree and TRAINING as it is then; to which ROWS come now");
        GainTrees x = Check.bench(NAMES, "1,p,0,a;2,p,0,b;");
        x.grow(0, 1, 60);
        Check.due("rules()", x.rules(), 2);
        x.clear(0);
        Check.due("none come now", x.rules(), 0);
        Check.due("count(6)", x.count(6), 0);
        Check.due("written", Check.written(x, 1), "else a;");
        Check.tape(x, "7,p,0,b;8,p,0,c;8,p,0,c;").rows(0);
        Check.due("they stay as they were made", x.count(5), 0);
        Check.due("one leaf", x.rules(), 1);
        Check.due("written", Check.written(x, 1), "then b; else c;");
        Check.due("rule(0, 2)", x.rule(0, 2), 3);
        Check.due("rule(0, 3)", x.rule(0, 3), 1);
        Check.tape(x, "1,p,0,b;").rows(0);
        Check.due("rule(0, 2) when it was made", x.rule(0, 2), 3);
        Check.due("rows of the node stay", x.node(0, 3), 2);
    }

    private static void wayFromTheFirstNode() {
        Check.sentence("IV", "the CONDITIONS of its way (<=, >, =) from NODE 0 on, and its CLASS");
        GainTrees x = makes("1,p,1,a;1,p,9,b;1,q,1,b;9,p,1,c;9,q,9,c;1,q,9,b;9,q,1,c;9,p,9,c;",
                "by x<=5 by y{p:by z<=5 is a else is b q:is b r:is b} else is c", 4,
                "if x > 5 then c; if x <= 5 and z > 5 then b; if x <= 5 and y = q then b; "
                        + "if x <= 5 and y = p and z <= 5 then a; else c;");
        int[][] last = {{0, 0, 5000}, {1, 2, 0}, {2, 0, 5000}};
        for (int i = 0; i < 3; i++) {
            for (int what = 0; what < 3; what++) {
                Check.due("condition(3, " + i + ", " + what + ")", x.condition(3, i, what), last[i][what]);
            }
        }
        Check.due("condition(0, 0, 1)", x.condition(0, 0, 1), 1);
    }

    private static void covers() {
        Check.sentence("IV", "A RULE COVERS a row for which all its CONDITIONS hold");
        GainTrees x = makes("1,p,0,a;1,p,0,a;5,p,0,a;5.001,p,0,b;9,q,0,b;", "by x<=5 is a else is b", 2,
                "if x <= 5 then a; if x > 5 then b; else a;");
        Check.due("covered", x.rule(0, 2), 3);
        Check.due("covered", x.rule(1, 2), 2);
        Check.due("at the cut", Check.tape(x, "5,p,0").decide(1), 0);
        Check.due("above it", Check.tape(x, "5.001,p,0").decide(1), 1);
        Check.due("far below", Check.tape(x, "-1000000,r,0").decide(1), 0);
    }

    private static void worth() {
        Check.sentence("IV", "its WORTH is (h + 1) / (k + 2)");
        // y = p covers 1 of 1 (2/3), y = q 3 of 4 (4/6), y = r 4 of 5 (5/7)
        GainTrees x = makes("1,p,0,a;1,q,0,b;1,q,0,b;1,q,0,b;1,q,0,a;1,r,0,c;1,r,0,c;1,r,0,c;1,r,0,c;1,r,0,a;",
                "by y{p:is a q:is b r:is c}", 3, "if y = r then c; if y = q then b; if y = p then a; else c;");
        int[][] want = {{2, 1, 5, 4}, {1, 1, 4, 3}, {0, 1, 1, 1}};
        for (int r = 0; r < 3; r++) {
            for (int what = 0; what < 4; what++) {
                Check.due("rule(" + r + ", " + what + ")", x.rule(r, what), want[r][what]);
            }
        }
    }

    private static void notLess() {
        Check.sentence("IV", "As long as there is a CONDITION without which its WORTH is not less");
        // x <= 5: 1 of 1 (2/3); without it 3 of 4 (4/6), as much, so it goes
        makes("1,p,0,a;9,p,0,a;9,p,0,a;9,p,0,b;", "by x<=5 is a else is b", 2, "then a; if x > 5 then b; else a;");
        // without it 2 of 3 (3/5), less: it stays
        makes("1,p,0,a;9,p,0,a;9,p,0,b;", "by x<=5 is a else is b", 2, "if x <= 5 then a; if x > 5 then b; else a;");
        // none of 1 (1/3), without it 1 of 4 (2/6), as much
        makes("1,p,0,b;9,p,0,b;9,p,0,b;9,p,0,a;", "by x<=5 is a else is b", 2, "then b; then a; else b;");
        // none of 1 (1/3), without it none of 2 (1/4): it stays
        makes("1,p,0,b;9,p,0,b;", "by x<=5 is c else is b", 2, "then b; if x <= 5 then c; else b;");
    }

    /** x <= 5, y = p, z <= 5 (2 of 2): without x 3 of 3, without y 4 of 4, without z 2 of 2. */
    private static void withoutWhichItIsGreatest() {
        Check.sentence("IV", "that one goes without which it is greatest");
        GainTrees x = read("1,p,1,a;1,p,1,a;9,p,1,a;1,q,1,a;1,r,1,a;9,q,1,b;9,q,1,b;9,q,9,b;",
                "by x<=5 by y{p:by z<=5 is a else is b q:is c r:is c} else is b");
        x.rules();
        boolean found = false;
        for (int r = 0; r < x.count(5); r++) {
            if (x.rule(r, 0) == 0) {
                found = true;
                Check.due("conditions", x.rule(r, 1), 1);
                Check.due("y = p goes first, then z <= 5", x.condition(r, 0, 0), 0);
                Check.due("covered", x.rule(r, 2), 4);
            }
        }
        Check.due("the rule for a is there", found, true);
        // 1 of 1 (2/3); without x <= 5 3 of 3 (4/5), without z <= 5 2 of 2 (3/4): x goes, though z comes behind it
        makes("1,p,1,a;9,p,1,a;9,p,1,a;1,p,9,a;9,p,9,b;9,p,9,b;9,p,9,b;9,p,9,b;",
                "by x<=5 by z<=5 is a else is c else is b", 3,
                "if z <= 5 then a; if x > 5 then b; if x <= 5 and z > 5 then c; else a;");
        // the other way round
        makes("1,p,1,a;1,p,9,a;1,p,9,a;9,p,1,a;9,p,9,b;9,p,9,b;9,p,9,b;9,p,9,b;",
                "by x<=5 by z<=5 is a else is c else is b", 3,
                "if x <= 5 then a; if x > 5 then b; if x <= 5 and z > 5 then c; else a;");
    }

    private static void firstConditionOfSeveral() {
        Check.sentence("IV", "(the first of several)");
        String rows = "1,p,1,a;2,p,2,a;3,p,3,b;4,p,4,b;";
        makes(rows, "by x<=2 by z<=2 is a else is b else by z<=2 is a else is b", 2, "if z <= 2 then a; if z > 2 then b; else a;");
        makes(rows, "by z<=2 by x<=2 is a else is b else by x<=2 is a else is b", 2, "if x <= 2 then a; if x > 2 then b; else a;");
        makes(rows, "by x<=2 by x<=2 is a else is b else is b", 2, "if x <= 2 then a; if x > 2 then b; else a;");
        makes(rows, "by x<=3 by z<=2 is a else is b else is b", 3, "if z <= 2 then a; if z > 2 then b; if x > 3 then b; else a;");
    }

    private static void noConditionLeft() {
        Check.sentence("IV", "(a CONDITION goes: the last one too)");
        GainTrees x = makes("1,p,0,a;2,p,0,a;3,p,0,a;", "by x<=1 by y{p:is a q:is b r:is c} else is a", 1, "then a; else a;");
        Check.due("rule(0, 1)", x.rule(0, 1), 0);
        Check.due("rule(0, 2)", x.rule(0, 2), 3);
        Check.due("rule(0, 3)", x.rule(0, 3), 3);
        Check.throwsNoElement("condition(0, 0, 0)", () -> x.condition(0, 0, 0));
        Check.due("it covers all", Check.tape(x, "-5,r,7").decide(1), 0);
        GainTrees y = makes("1,p,0,b;", "is c", 1, "then c; else b;");
        Check.due("a LEAF alone has none from the start", y.rule(0, 1), 0);
        Check.due("of its CLASS none", y.rule(0, 3), 0);
    }

    /** A way may have one CONDITION twice: either goes without loss, then the other must stay. */
    private static void sameConditionsTwice() {
        Check.sentence("IV", "without which its WORTH is not less (of two that are the same either one)");
        makes("1,p,0,a;1,p,0,a;9,p,0,b;9,p,0,b;", "by x<=5 by x<=5 by x<=5 is a else is c else is c else is b", 2,
                "if x <= 5 then a; if x > 5 then b; else a;");
        makes("1,p,0,a;1,p,0,a;9,q,0,b;9,q,0,b;", "by y{p:by y{p:is a q:is c r:is c} q:by y{p:is c q:is b r:is c} r:is c}", 2,
                "if y = p then a; if y = q then b; else a;");
    }

    private static void sameRules() {
        Check.sentence("IV", "Of RULES with the same CONDITIONS in the same order and the same CLASS the first one alone stays.");
        String rows = "1,p,0,a;1,q,0,a;3,p,0,b;3,q,0,b;";
        GainTrees x = makes(rows, "by y{p:by x<=2 is a else is b q:by x<=2 is a else is b r:is c}", 2,
                "if x <= 2 then a; if x > 2 then b; else a;");
        Check.due("count(5)", x.count(5), 2);
        Check.throwsNoElement("rule(2, 0)", () -> x.rule(2, 0));
        makes("1,p,0,a;1,q,0,a;1,r,0,a;", "by y{p:is a q:is a r:is a}", 1, "then a; else a;");
    }

    private static void likeRulesThatDiffer() {
        Check.sentence("IV", "(of RULES that differ in CLASS, sort, CUT or order both stay)");
        makes("1,p,0,a;2,p,0,a;1,q,0,c;", "by x<=1 is b else is b", 2, "if x > 1 then b; if x <= 1 then b; else a;");
        makes("1,p,0,a;9,p,0,b;", "by x<=5 is b else is a", 2, "then b; then a; else a;");
        makes("1,p,0,a;3,p,0,b;5,p,0,c;", "by x<=1 is a else by x<=3 is b else is c", 3,
                "if x <= 1 then a; if x > 1 and x <= 3 then b; if x > 3 then c; else a;");
    }

    private static void orderedByWorth() {
        Check.sentence("IV", "They are ordered: by WORTH, the greatest first");
        makes("1,p,0,a;1,q,0,b;1,q,0,b;1,r,0,c;1,r,0,c;1,r,0,c;", "by y{p:is a q:is b r:is c}", 3,
                "if y = r then c; if y = q then b; if y = p then a; else c;");
        makes("1,p,0,a;1,p,0,a;1,p,0,a;1,q,0,b;1,q,0,b;1,r,0,c;", "by y{p:is a q:is b r:is c}", 3,
                "if y = p then a; if y = q then b; if y = r then c; else a;");
    }

    private static void orderedByCovered() {
        Check.sentence("IV", "then by k, the greatest first");
        // 2/3 of 1, 4/6 of 4
        makes("1,p,0,a;1,q,0,b;1,q,0,b;1,q,0,b;1,q,0,a;", "by y{p:is a q:is b r:is c}", 2,
                "if y = q then b; if y = p then a; else b;");
        makes("1,q,0,a;1,p,0,b;1,p,0,b;1,p,0,b;1,p,0,a;", "by y{p:is b q:is a r:is c}", 2,
                "if y = p then b; if y = q then a; else b;");
    }

    private static void orderedAsTheyCame() {
        Check.sentence("IV", "then as they came");
        makes("1,p,0,a;1,q,0,b;1,r,0,c;", "by y{p:is a q:is b r:is c}", 3,
                "if y = p then a; if y = q then b; if y = r then c; else a;");
        makes("1,r,0,c;1,q,0,b;1,p,0,a;", "by y{p:is a q:is b r:is c}", 3,
                "if y = p then a; if y = q then b; if y = r then c; else a;");
        makes("9,p,0,a;1,p,0,b;", "by x<=5 is b else is a", 2, "if x <= 5 then b; if x > 5 then a; else a;");
    }

    private static void defaultOfAll() {
        Check.sentence("IV", "The DEFAULT .. of all ROWS, if there is none such (CLASS 0 without any); the first of several");
        makes("1,p,0,c;1,p,0,b;1,p,0,c;1,p,0,b;", "is a", 1, "then a; else b;");
        makes("1,p,0,c;1,p,0,b;1,p,0,c;", "is a", 1, "then a; else c;");
        makes("", "is b", 0, "else a;");
        GainTrees x = read("1,p,0,c;", "is b");
        Check.due("ahead of rules()", x.count(6), -1);
        x.rules();
        Check.due("behind it", x.count(6), 2);
        x.clear(0);
        Check.due("as it was made", x.count(6), 2);
        x.rules();
        Check.due("made anew without rows", x.count(6), 0);
    }

    private static void decidedByTheFirst() {
        Check.sentence("IV", "A row is DECIDED by the first RULE that COVERS it");
        GainTrees x = makes("1,p,0,a;1,p,0,a;9,p,0,b;", "by x<=5 is a else is c", 2, "if x <= 5 then a; if x > 5 then c; else a;");
        Check.due("errors(0, 1)", x.errors(0, 1), 1);
        GainTrees y = makes("1,p,0,b;9,p,0,b;9,p,0,b;9,p,0,a;", "by x<=5 is a else is b", 2, "then b; then a; else b;");
        Check.due("the second one never decides", y.tried(0, 1, -1, 0), 0);
        Check.due("by the tree it does", y.tried(0, 0, -1, 0), 1);
        Check.due("decide(1)", Check.tape(y, "1,r,0").decide(1), 1);
        Check.due("decide(0)", Check.tape(y, "1,r,0").decide(0), 0);
    }

    private static void decidedByTheDefault() {
        Check.sentence("IV", "or by the DEFAULT");
        GainTrees x = makes("1,p,0,a;1,q,0,b;1,q,0,b;1,p,0,b;1,p,0,a;1,p,0,a;", "by y{p:is a q:is b r:is c}", 2,
                "if y = q then b; if y = p then a; else a;");
        Check.due("no RULE for r", Check.tape(x, "1,r,0").decide(1), 0);
        Check.due("the tree has one", Check.tape(x, "1,r,0").decide(0), 2);
        Check.tape(x, "1,r,0,c;1,r,0,a;").rows(1);
        Check.due("errors(1, 1)", x.errors(1, 1), 1);
        Check.due("errors(1, 0)", x.errors(1, 0), 1);
        Check.due("tried(1, 1, 2, 0)", x.tried(1, 1, 2, 0), 1);
        GainTrees y = makes("", "by x<=5 is b else is c", 0, "else a;");
        Check.due("no RULE at all", Check.tape(y, "1,p,0").decide(1), 0);
    }

    /** As deep and as many as can be: 200 rows of numbers, whose class changes from each to the next. */
    private static void deepRules() {
        Check.sentence("IV", "(as many RULES and CONDITIONS as there can be)");
        StringBuilder rows = new StringBuilder();
        for (int i = 0; i < 200; i++) {
            rows.append(i).append(i % 2 == 0 ? ",a;" : ",b;");
        }
        GainTrees x = Check.bench("classes a,b;x:measured;", rows.toString());
        x.grow(0, 1, 60);
        int rules = x.rules();
        Check.due("count(5)", x.count(5), rules);
        Check.due("more than fifty", rules > 50, true);
        for (int r = 0; r + 1 < rules && r < 60; r++) {
            long worth = (x.rule(r, 3) + 1L) * (x.rule(r + 1, 2) + 2);
            long next = (x.rule(r + 1, 3) + 1L) * (x.rule(r, 2) + 2);
            Check.due("in order of worth", worth > next || worth == next && x.rule(r, 2) >= x.rule(r + 1, 2), true);
        }
        Check.due("write(1)", x.write(1) > 0, true);
    }

    // ---- V. written
    private static void blanksOfTrees() {
        Check.sentence("V", "one blank between two tokens, but none ahead of , : ; : a tree as a TREE TEXT");
        GainTrees x = read("", "by\ny{p:by  x<=1is a else\n\nis b q : is b r:by y{p:is a q:is b r:is c}}");
        String text = "by y { p: by x <= 1 is a else is b q: is b r: by y { p: is a q: is b r: is c } }";
        Check.due("written", Check.written(x, 0), text);
        Check.due("again()", x.again(), text.length());
        Check.due("tree() of what was written", x.tree(), 9);
        Check.due("written once more", Check.written(x, 0), text);
        Check.due("a LEAF alone", Check.written(read("", "is  c"), 0), "is c");
    }

    private static void blanksOfRules() {
        Check.sentence("V", "of each 'if' CONDITION { 'and' CONDITION } 'then' CLASS ';' (..) at last 'else' DEFAULT ';'");
        makes("1,p,0,a;1,p,0,a;9,p,0,b;1,q,0,c;9,q,0,b;", "by x<=5 by y{p:is a q:is c r:is b} else is b", 3,
                "if x <= 5 and y = p then a; if x > 5 then b; if x <= 5 and y = q then c; else a;");
        makes("", "is a", 0, "else a;");
        makes("1,p,0,b;", "is b", 1, "then b; else b;");
    }

    private static void writtenNumbers() {
        Check.sentence("V", "NUMBERS: - if below 0, the whole part without 0s ahead, . and what is behind it without 0s at"
                + " the end, if there is any.");
        String[][] numbers = {{"0", "0"}, {"-0.0", "0"}, {"0.001", "0.001"}, {"-0.001", "-0.001"}, {"0.010", "0.01"},
            {"0.100", "0.1"}, {"-0.500", "-0.5"}, {"1.000", "1"}, {"-1.000", "-1"}, {"10", "10"}, {"100.100", "100.1"},
            {"0000100", "100"}, {"-0000100.010", "-100.01"}, {"999999.999", "999999.999"}, {"-999999.999", "-999999.999"},
            {"1000000", "1000000"}, {"-1000000", "-1000000"}, {"1000000.000", "1000000"}, {"123456.789", "123456.789"},
            {"9.909", "9.909"}, {"90.09", "90.09"}, {"-9.990", "-9.99"}};
        for (String[] n : numbers) {
            GainTrees x = read("", "by x<=" + n[0] + " is a else is b");
            String text = "by x <= " + n[1] + " is a else is b";
            int bytes = x.write(0);
            Check.due("bytes of " + n[0], bytes, text.length());
            Check.due("written " + n[0], Check.result(x), text);
            GainTrees y = makes(n[0] + ",p,0,a;" + n[0] + ",p,0,a;", "by x<=" + n[0] + " is a else is b", 1, "then a; else a;");
            Check.due("row(0, 0, 0)", y.row(0, 0, 0), x.node(0, 1));
        }
    }

    private static void signsOfConditions() {
        Check.sentence("V", "a CONDITION as its ATTRIBUTE, <= or > or = , and CUT or VALUE");
        makes("-0.5,p,-2.25,a;-0.5,p,0,b;1,p,-2.25,b;1,p,0,b;", "by x<=-0.5 by z<=-1.250 is a else is b else is b", 3,
                "if z > -1.25 then b; if x > -0.5 then b; if x <= -0.5 and z <= -1.25 then a; else b;");
        makes("1,p,0,a;1,q,0,b;1,r,0,c;", "by y{p:is a q:is b r:is c}", 3,
                "if y = p then a; if y = q then b; if y = r then c; else a;");
    }
}
