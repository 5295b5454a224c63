/** Promises 11 and 12: tree() and prune(). */
public final class TreeTest {
    private TreeTest() {
    }

    private static final String NAMES = "classes a,b,c;x:measured;y:p,q,r;";

    public static void main(String[] args) {
        goodTrees();
        syntax();
        names();
        ranges();
        room();
        rowsComeDown();
        faultKeepsTheTree();
        refusals();
        pruned();
        prunedByNothing();
        prunedOnlyBelow();
        prunedStepByStep();
        prunedLeaf();
        Check.end("TreeTest");
    }

    private static void good(String text, int nodes, String written) {
        GainTrees x = Check.bench(NAMES, "");
        Check.due("tree() of " + text, Check.tape(x, text).tree(), nodes);
        Check.due("fault(0)", x.fault(0), 0);
        Check.due("fault(1)", x.fault(1), -1);
        Check.due("count(7)", x.count(7), 0);
        Check.due("written", Check.written(x, 0), written);
    }

    private static void goodTrees() {
        good("is a", 1, "is a");
        good("\n is\nc ", 1, "is c");
        good("by x<=0is a else is b", 3, "by x <= 0 is a else is b");
        good("by x <= -0.50 is a else by x<=001 is b else is a", 5, "by x <= -0.5 is a else by x <= 1 is b else is a");
        good("by x<=1 by x<=2 is a else is b else is c", 5, "by x <= 1 by x <= 2 is a else is b else is c");
        good("by y{p:is a q:is b r:is c}", 4, "by y { p: is a q: is b r: is c }");
        good("by y { p : by x <= 7.125 is a else is b q: by y{p:is c q:is c r:is c}r:is a}", 9,
                "by y { p: by x <= 7.125 is a else is b q: by y { p: is c q: is c r: is c } r: is a }");
        good("by x<=-0 is a else is b", 3, "by x <= 0 is a else is b");
        good("by x<=1000000 is a else is b", 3, "by x <= 1000000 is a else is b");
        good("by x<=-1000000 is a else is b", 3, "by x <= -1000000 is a else is b");
        good("by x<=0.05 is a else is b", 3, "by x <= 0.05 is a else is b");
        good("by x<=10.010 is a else is b", 3, "by x <= 10.01 is a else is b");
    }

    private static void bad(String text, int kind, int place) {
        GainTrees x = Check.bench(NAMES, "");
        Check.due("tree() of " + text, Check.tape(x, text).tree(), -1);
        Check.due("fault(0) of " + text, x.fault(0), kind);
        Check.due("fault(1) of " + text, x.fault(1), place);
        Check.due("count(4)", x.count(4), 0);
        Check.due("count(7)", x.count(7), 0);
    }

    private static void syntax() {
        bad("", 1, 0);
        bad(" \n", 1, 2);
        bad("a", 1, 0);
        bad("else", 1, 0);
        bad("is", 1, 2);
        bad("is 5", 1, 3);
        bad("is a is b", 1, 5);
        bad("is a;", 1, 4);
        bad("by", 1, 2);
        bad("by 5", 1, 3);
        bad("by x", 1, 4);
        bad("by x{p:is a", 1, 4);
        bad("by x 5 is a else is b", 1, 5);
        bad("by x < = 5 is a else is b", 1, 5);
        bad("by x<= p is a else is b", 1, 7);
        bad("by x<=5 else is b", 1, 8);
        bad("by x<=5 is a", 1, 12);
        bad("by x<=5 is a is b", 1, 13);
        bad("by x<=5 is a else", 1, 17);
        bad("by x<=5 is a else is b else is c", 1, 23);
        bad("by y<=5 is a else is b", 1, 4);
        bad("by y{}", 1, 5);
        bad("by y{p is a", 1, 7);
        bad("by y{p:is a q:is b}", 1, 18);
        bad("by y{p:is a q:is b r:is c", 1, 25);
        bad("by y{p:is a q:is b r:is c p:is a}", 1, 26);
        bad("by y{p:is a,q:is b r:is c}", 1, 11);
        bad("by y{p:is a q:is b r:is c}}", 1, 26);
        bad("by y{5:is a q:is b r:is c}", 1, 5);
        bad("by x<=1.2345 is a else is b", 1, 6);
        bad("by x<=12345678 is a else is b", 1, 6);
    }

    private static void names() {
        bad("is d", 2, 3);
        bad("is is", 2, 3);
        bad("is x", 2, 3);
        bad("by z", 2, 3);
        bad("by a", 2, 3);
        bad("by by", 2, 3);
        bad("by y{q:is a p:is b r:is c}", 2, 5);
        bad("by y{p:is a r:is b q:is c}", 2, 12);
        bad("by y{p:is a p:is b q:is c}", 2, 12);
        bad("by y{else:is a", 2, 5);
        bad("by y{s:is a", 2, 5);
    }

    private static void ranges() {
        bad("by x<=1000000.001 is a else is b", 3, 6);
        bad("by x<= -1000001 is a else is b", 3, 7);
        bad("by x<=9999999", 3, 6);
    }

    private static String chain(int forks, boolean onTheLeft) {
        StringBuilder text = new StringBuilder();
        for (int i = 0; i < forks; i++) {
            text.append(onTheLeft ? "by x<=0 " : "by x<=0 is a else ");
        }
        text.append("is b");
        for (int i = 0; i < forks && onTheLeft; i++) {
            text.append(" else is c");
        }
        return text.toString();
    }

    private static void room() {
        for (boolean left : new boolean[] {true, false}) {
            GainTrees x = Check.bench(NAMES, "");
            Check.due("sixty forks", Check.tape(x, chain(60, left)).tree(), 121);
            Check.due("the last leaf is under sixty", x.node(left ? 60 : 120, 5), 60);
            bad(chain(61, left), 4, 60 * (left ? 8 : 18));
            bad(chain(60, left).replace("is b", "by ?"), 4, 60 * (left ? 8 : 18));
            bad(chain(60, left).replace("is b", "bye"), 1, 60 * (left ? 8 : 18));
        }
        String side = "by x<=0 " + chain(59, true) + " else ";
        GainTrees x = Check.bench(NAMES, "");
        Check.due("forks beside it are not around it", Check.tape(x, side + "by x<=1 is a else is b").tree(), 123);
        StringBuilder values = new StringBuilder();
        for (int i = 0; i < 60; i++) {
            values.append("by y{p:is a q:is b r:");
        }
        String end = "}".repeat(60);
        Check.due("sixty by values", Check.tape(x, values + "is c" + end).tree(), 181);
        bad(values + "by y{p:is a q:is b r:is c}" + end, 4, 60 * 21);
    }

    private static void rowsComeDown() {
        GainTrees x = Check.bench(NAMES, "1,p,b;2,q,c;3,q,c;");
        Check.due("tree()", Check.tape(x,
                "by y{p:is a q:by x<=2 is a else is b r:by x<=5 by y{p:is a q:is b r:is c} else is b}").tree(), 11);
        int[][] want = {{1, 0, 2, 3, 3, 0}, {-1, 0, 0, 1, 0, 1}, {0, 2000, 2, 2, 2, 1}, {-1, 0, 0, 1, 0, 2},
            {-1, 0, 1, 1, 0, 2}, {0, 5000, 2, 0, 2, 1}, {1, 0, 2, 0, 3, 2}, {-1, 0, 0, 0, 0, 3}};
        for (int i = 0; i < want.length; i++) {
            for (int what = 0; what < 6; what++) {
                Check.due("node(" + i + ", " + what + ")", x.node(i, what), want[i][what]);
            }
        }
        Check.due("node(0, 22)", x.node(0, 22), 2);
        Check.due("node(2, 22)", x.node(2, 22), 2);
        Check.due("node(5, 22)", x.node(5, 22), 0);
        Check.due("node(5, 10)", x.node(5, 10), 6);
        Check.due("node(5, 11)", x.node(5, 11), 10);
        Check.tape(x, "1,p,a;").rows(0);
        Check.due("later rows change nothing", x.node(0, 3), 3);
        GainTrees y = Check.bench(NAMES, "");
        Check.tape(y, "by x<=0 is b else by x<=1 is c else is b").tree();
        Check.due("the first node without rows", y.node(0, 2), 0);
        Check.due("one below it", y.node(2, 2), 0);
        Check.due("a leaf as told", y.node(1, 2), 1);
    }

    private static void faultKeepsTheTree() {
        GainTrees x = Weather.grown();
        Check.due("tree()", Check.tape(x, "by outlook{sunny:is no overcast:is maybe").tree(), -1);
        Check.due("the tree stays", Check.written(x, 0), Weather.TREE);
        Check.due("its rows too", x.node(5, 3), 5);
        x.rules();
        Check.tape(x, "is yes").tree();
        Check.due("no rules then", x.count(5), 0);
        Check.due("no default then", x.count(6), -1);
        Check.throwsState("no rules", () -> x.errors(0, 1));
        x.rules();
        Check.due("a fault", Check.tape(x, "is perhaps").tree(), -1);
        Check.due("the tree stays", x.count(4), 1);
        Check.due("no rules then, with a fault too", x.count(5), 0);
        Check.due("no default then", x.count(6), -1);
    }

    private static void refusals() {
        GainTrees x = new GainTrees();
        Check.tape(x, "is a");
        Check.throwsState("tree() without names", () -> x.tree());
        Check.due("the tape stays", x.count(7), 4);
        Check.throwsState("prune() without a tree", () -> x.prune());
    }

    /** Rain: one error as a leaf, two below; sunny: one as a leaf, none below; all: three to two. */
    private static void pruned() {
        GainTrees x = Weather.grownAndHeld();
        x.rules();
        Check.due("prune()", x.prune(), 1);
        Check.due("no rules then", x.count(5), 0);
        Check.due("no default then", x.count(6), -1);
        Check.due("count(4)", x.count(4), 6);
        Check.due("count(9)", x.count(9), 4);
        Check.due("pruned", Check.written(x, 0),
                "by outlook { sunny: by humidity <= 70 is yes else is no overcast: is yes rain: is yes }");
        Check.due("rows of the new leaf", x.node(5, 3), 5);
        Check.due("its class", x.node(5, 2), 1);
        Check.due("its attribute", x.node(5, 0), -1);
        Check.due("its children", x.node(5, 4), 0);
        Check.due("a child by its new number", x.node(0, 12), 5);
        Check.due("errors", x.errors(1, 0), 2);
        Check.due("nothing more", x.prune(), 0);
    }

    private static void prunedByNothing() {
        GainTrees x = Weather.grown();
        Check.due("prune() without rows held out", x.prune(), 3);
        Check.due("all goes", Check.written(x, 0), "is yes");
        Check.due("count(4)", x.count(4), 1);
        Check.due("node(0, 3)", x.node(0, 3), 14);
        Check.due("node(0, 20)", x.node(0, 20), 5);
    }

    private static void prunedOnlyBelow() {
        GainTrees x = Check.bench(NAMES, "1,p,a;2,p,a;3,p,b;4,p,b;4,p,b;");
        Check.tape(x, "by x<=2 by x<=1 is a else is a else by x<=3 is b else is c").tree();
        Check.tape(x, "1,p,a;2,p,a;3,q,b;4,q,c;").rows(1);
        Check.due("as many errors prune, more do not", x.prune(), 1);
        Check.due("pruned", Check.written(x, 0), "by x <= 2 is a else by x <= 3 is b else is c");
        Check.due("numbers anew", x.node(2, 10), 3);
        Check.due("above", x.node(3, 5), 2);
        Check.due("nodes", x.count(4), 5);
    }

    /** The lower fork goes first; only then has the upper one as few errors as a leaf as below it. */
    private static void prunedStepByStep() {
        GainTrees x = Check.bench(NAMES, "1,p,a;2,p,a;3,p,a;4,p,b;");
        Check.tape(x, "by x<=3 by x<=1 is b else is b else is b").tree();
        Check.tape(x, "1,p,a;4,p,b;").rows(1);
        Check.due("one", x.prune(), 1);
        Check.due("pruned", Check.written(x, 0), "by x <= 3 is a else is b");
        x.clear(1);
        Check.tape(x, "1,p,b;4,p,b;").rows(1);
        Check.due("the first needs fewer errors", x.prune(), 0);
        x.clear(1);
        Check.tape(x, "1,p,b;4,p,a;").rows(1);
        Check.due("one error to two", x.prune(), 1);
        Check.due("pruned", Check.written(x, 0), "is a");
    }

    private static void prunedLeaf() {
        GainTrees x = Check.bench(NAMES, "1,p,a;");
        x.grow(0, 1, 60);
        x.rules();
        Check.due("a leaf alone", x.prune(), 0);
        Check.due("no rules then", x.count(6), -1);
    }
}
