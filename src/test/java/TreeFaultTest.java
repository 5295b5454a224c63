/**
 * Promise 11 behind rules(): "NONE with a FAULT (the tree stays). There are no RULES then." What stays is told in the
 * brackets, the sentence behind them stands without a condition, as it does in promises 10 and 12; of names() alone
 * it is told that a FAULT changes nothing else. So the calls that need RULES answer as if none had been made.
 */
public final class TreeFaultTest {
    private TreeFaultTest() {
    }

    private static final String RULES = "if outlook = overcast then yes; "
            + "if outlook = sunny and humidity > 70 then no; if outlook = rain and windy = false then yes; "
            + "if outlook = sunny and humidity <= 70 then yes; if outlook = rain and windy = true then no; else yes;";

    public static void main(String[] args) {
        String tooDeep = "by humidity<=0 ".repeat(61) + "is no";
        Object[][] faulty = {{"", 1, 0}, {"is", 1, 2}, {"is no is yes", 1, 6}, {"is perhaps", 2, 3},
            {"by humidity<=1000001 is no else is yes", 3, 13}, {tooDeep, 4, 900}};
        for (Object[] f : faulty) {
            GainTrees x = ruled();
            Check.due("tree()", Check.tape(x, (String) f[0]).tree(), -1);
            Check.due("fault(0)", x.fault(0), f[1]);
            Check.due("fault(1)", x.fault(1), f[2]);
            noRules(x);
            theTreeStays(x);
        }
        aTreeThatWasReadStays();
        rulesCanBeMadeAgain();
        withoutRulesAhead();
        otherFaultsKeepTheRules();
        callsThatThrowKeepTheRules();
        Check.end("TreeFaultTest");
    }

    private static GainTrees ruled() {
        GainTrees x = Weather.grownAndHeld();
        Check.due("rules()", x.rules(), 5);
        Check.due("write(1)", x.write(1), RULES.length());
        return x;
    }

    private static void noRules(GainTrees x) {
        Check.due("count(5)", x.count(5), 0);
        Check.due("count(6)", x.count(6), -1);
        Check.throwsNoElement("rule(0, 0)", () -> x.rule(0, 0));
        Check.throwsNoElement("condition(0, 0, 0)", () -> x.condition(0, 0, 0));
        Check.throwsState("tried(0, 1, -1, -1)", () -> x.tried(0, 1, -1, -1));
        Check.throwsState("tried(1, 1, 0, 0)", () -> x.tried(1, 1, 0, 0));
        Check.throwsState("errors(0, 1)", () -> x.errors(0, 1));
        Check.throwsState("errors(1, 1)", () -> x.errors(1, 1));
        Check.throwsState("write(1)", () -> x.write(1));
        Check.due("the result stays", x.count(8), RULES.length());
        Check.tape(x, "rain,1,1,true");
        Check.throwsState("decide(1)", () -> x.decide(1));
        Check.due("the tape stays", x.count(7), 13);
        Check.due("decide(0)", x.decide(0), 0);
    }

    private static void theTreeStays(GainTrees x) {
        Check.due("count(4)", x.count(4), 8);
        Check.due("count(9)", x.count(9), 5);
        Check.due("node(5, 3)", x.node(5, 3), 5);
        Check.due("errors(0, 0)", x.errors(0, 0), 0);
        Check.due("tried(1, 0, 0, 1)", x.tried(1, 0, 0, 1), 2);
        Check.due("write(0)", Check.written(x, 0), Weather.TREE);
        Check.due("prune()", x.prune(), 1);
    }

    private static void aTreeThatWasReadStays() {
        GainTrees x = ruled();
        String text = "by windy { false: is yes true: by humidity <= 80 is no else is yes }";
        Check.due("tree()", Check.tape(x, text).tree(), 5);
        for (String faulty : new String[] {"", "by outlook{sunny:is no overcast:is no rain:is perhaps", "is no is"}) {
            x.rules();
            Check.due("tree()", Check.tape(x, faulty).tree(), -1);
            Check.due("count(5)", x.count(5), 0);
            Check.due("node(2, 3)", x.node(2, 3), 6);
            Check.due("write(0)", x.write(0), text.length());
        }
        Check.due("it stays", Check.result(x), text);
    }

    private static void rulesCanBeMadeAgain() {
        GainTrees x = ruled();
        Check.due("tree()", Check.tape(x, "is perhaps").tree(), -1);
        Check.due("rules()", x.rules(), 5);
        Check.due("count(6)", x.count(6), 1);
        Check.due("write(1)", Check.written(x, 1), RULES);
        Check.due("tree()", Check.tape(x, "is yes").tree(), 1);
        Check.due("count(5)", x.count(5), 0);
        Check.due("count(6)", x.count(6), -1);
        Check.throwsState("write(1)", () -> x.write(1));
    }

    private static void withoutRulesAhead() {
        GainTrees x = Weather.grown();
        Check.due("tree()", Check.tape(x, "is perhaps").tree(), -1);
        Check.due("count(6)", x.count(6), -1);
        Check.due("the tree stays", Check.written(x, 0), Weather.TREE);
        GainTrees y = Check.bench(Weather.NAMES, "");
        Check.due("tree()", Check.tape(y, "is perhaps").tree(), -1);
        Check.due("count(4)", y.count(4), 0);
        Check.throwsState("there is no tree as before", () -> y.rules());
    }

    private static void otherFaultsKeepTheRules() {
        GainTrees x = ruled();
        Check.due("names()", Check.tape(x, "classes a").names(), -1);
        Check.due("rows(0)", Check.tape(x, "sunny").rows(0), -1);
        Check.due("rows(1)", Check.tape(x, "sunny").rows(1), -1);
        Check.due("decide(0)", Check.tape(x, "sunny").decide(0), -1);
        Check.due("decide(1)", Check.tape(x, "sunny").decide(1), -1);
        Check.due("count(5)", x.count(5), 5);
        Check.due("count(6)", x.count(6), 1);
        Check.due("decide(1)", Check.tape(x, "rain,1,1,true").decide(1), 0);
        Check.due("write(1)", Check.written(x, 1), RULES);
    }

    private static void callsThatThrowKeepTheRules() {
        GainTrees x = ruled();
        Check.throwsArgument("grow(3, 1, 60)", () -> x.grow(3, 1, 60));
        Check.due("clear(0)", x.clear(0), 14);
        Check.throwsState("grow(0, 1, 60)", () -> x.grow(0, 1, 60));
        Check.throwsState("folds(2, 0, 1, 60)", () -> x.folds(2, 0, 1, 60));
        Check.throwsArgument("write(2)", () -> x.write(2));
        Check.due("count(5)", x.count(5), 5);
        Check.due("errors(1, 1)", x.errors(1, 1), 3);
    }
}
