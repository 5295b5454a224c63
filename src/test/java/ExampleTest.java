import java.nio.charset.StandardCharsets;
import java.nio.file.Files;
import java.nio.file.Paths;

/** The example of README.md: each of its lines stands there as it is asked here, with the answer that is due. */
public final class ExampleTest {
    private static String readme;

    private ExampleTest() {
    }

    public static void main(String[] args) throws Exception {
        readme = new String(Files.readAllBytes(Paths.get("README.md")), StandardCharsets.UTF_8).replaceAll(" +", " ");
        GainTrees x = new GainTrees();
        readAndGrow(x);
        write(x);
        prune(x);
        rules(x);
        decide(x);
        faults(x);
        Check.end("ExampleTest");
    }

    private static void answers(String call, Object got, Object want) {
        Check.due(call, got, want);
        Check.due("README.md has the line " + call, readme.contains("\nx." + call + "; // " + want + "\n"), true);
    }

    private static void tape(GainTrees x, String text) {
        Check.due("README.md has the tape " + text, readme.contains("\ntape(x, \"" + text + "\");\n"), true);
        Check.tape(x, text);
    }

    private static void result(GainTrees x, String text) {
        Check.due("the result", Check.result(x), text);
        Check.due("README.md has the result " + text, readme.contains("\n// " + text + "\n"), true);
    }

    private static void readAndGrow(GainTrees x) {
        tape(x, "classes no, yes; outlook: sunny, overcast, rain; humidity: measured;");
        answers("names()", x.names(), 2);
        tape(x, "sunny, 85, no; sunny, 70, yes; overcast, 86, yes; rain, 80.5, yes; rain, 96, no;");
        answers("rows(0)", x.rows(0), 5);
        answers("row(0, 3, 1)", x.row(0, 3, 1), 80500);
        answers("grow(0, 1, 60)", x.grow(0, 1, 60), 6);
        answers("node(0, 0)", x.node(0, 0), 1);
        answers("node(0, 1)", x.node(0, 1), 80500);
        answers("compare(0, 0, 0, 1, 80500)", x.compare(0, 0, 0, 1, 80500), -1);
    }

    private static void write(GainTrees x) {
        answers("write(0)", x.write(0), 88);
        result(x, "by humidity <= 80.5 is yes else by outlook { sunny: is no overcast: is yes rain: is no }");
        answers("again()", x.again(), 88);
        answers("tree()", x.tree(), 6);
    }

    private static void prune(GainTrees x) {
        tape(x, "sunny, 60, yes; rain, 70, no; rain, 99, no;");
        answers("rows(1)", x.rows(1), 3);
        answers("errors(1, 0)", x.errors(1, 0), 1);
        answers("prune()", x.prune(), 1);
    }

    private static void rules(GainTrees x) {
        answers("rules()", x.rules(), 2);
        answers("write(1)", x.write(1), 67);
        result(x, "if humidity <= 80.5 then yes; if humidity > 80.5 then no; else yes;");
        answers("errors(0, 1)", x.errors(0, 1), 1);
        answers("folds(2, 0, 1, 60)", x.folds(2, 0, 1, 60), 4);
    }

    private static void decide(GainTrees x) {
        tape(x, "rain, 99.125");
        answers("decide(1)", x.decide(1), 0);
    }

    private static void faults(GainTrees x) {
        tape(x, "rain, 99.125, maybe");
        answers("decide(0)", x.decide(0), -1);
        answers("fault(0)", x.fault(0), 1);
        answers("fault(1)", x.fault(1), 12);
    }
}
