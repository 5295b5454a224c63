/** Promises 6, 7 and 9: rows(), clear() and row(). */
public final class RowsTest {
    private RowsTest() {
    }

    private static final String NAMES = "classes a,b,c;x:measured;y:p,q,r;";

    public static void main(String[] args) {
        goodRows();
        numbers();
        faults();
        room();
        refusals();
        clearing();
        cells();
        Check.end("RowsTest");
    }

    private static void goodRows() {
        GainTrees x = Check.bench(NAMES, "");
        Check.due("no row", Check.tape(x, " \n").rows(0), 0);
        Check.due("fault(0)", x.fault(0), 0);
        Check.due("two rows", Check.tape(x, "1,p,a; -2.5 , r ,\nc;").rows(0), 2);
        Check.due("one behind them", Check.tape(x, "3,q,b;").rows(0), 3);
        Check.due("the other table", Check.tape(x, "9,q,c;").rows(1), 1);
        Check.due("count(2)", x.count(2), 3);
        Check.due("count(3)", x.count(3), 1);
        Check.due("count(7)", x.count(7), 0);
        int[][] want = {{1000, 0, 0}, {-2500, 2, 2}, {3000, 1, 1}};
        for (int i = 0; i < 3; i++) {
            for (int k = 0; k < 3; k++) {
                Check.due("row(0, " + i + ", " + k + ")", x.row(0, i, k), want[i][k]);
            }
        }
        Check.due("row(1, 0, 0)", x.row(1, 0, 0), 9000);
        Check.due("row(1, 0, 2)", x.row(1, 0, 2), 2);
    }

    private static void number(String text, int thousandths) {
        GainTrees x = Check.bench("classes a,b;x:measured;", "");
        Check.due("rows() of " + text, Check.tape(x, text + ",a;").rows(0), 1);
        Check.due("number " + text, x.row(0, 0, 0), thousandths);
    }

    private static void badNumber(String text, int kind, int place) {
        GainTrees x = Check.bench("classes a,b;x:measured;", "");
        Check.due("rows() of " + text, Check.tape(x, text + ",a;").rows(0), -1);
        Check.due("fault(0) of " + text, x.fault(0), kind);
        Check.due("fault(1) of " + text, x.fault(1), place);
    }

    private static void numbers() {
        number("0", 0);
        number("-0", 0);
        number("-0.000", 0);
        number("0000001", 1000);
        number("1.5", 1500);
        number("1.05", 1050);
        number("1.005", 1005);
        number("-0.001", -1);
        number("-12.34", -12340);
        number("1000000", 1000000000);
        number("1000000.000", 1000000000);
        number("-1000000", -1000000000);
        badNumber("1000000.001", 3, 0);
        badNumber("-1000000.001", 3, 0);
        badNumber("1000001", 3, 0);
        badNumber(" 9999999.999", 3, 1);
        badNumber("-9999999", 3, 0);
        badNumber("12345678", 1, 0);
        badNumber("00000001", 1, 0);
        badNumber("12345678.5", 1, 0);
        badNumber("1.2345", 1, 0);
        badNumber("1.", 1, 1);
        badNumber("1.2.3", 1, 3);
        badNumber("1. 5", 1, 1);
        badNumber(".5", 1, 0);
        badNumber("-", 1, 0);
        badNumber("--1", 1, 0);
        badNumber("- 1", 1, 0);
        badNumber("-.5", 1, 0);
        badNumber("+1", 1, 0);
        badNumber("1e5", 1, 1);
        badNumber("1-2", 1, 1);
        badNumber("1 2", 1, 2);
    }

    private static void bad(String text, int kind, int place) {
        GainTrees x = Check.bench(NAMES, "7,q,c;");
        Check.due("rows() of " + text, Check.tape(x, text).rows(0), -1);
        Check.due("fault(0) of " + text, x.fault(0), kind);
        Check.due("fault(1) of " + text, x.fault(1), place);
        Check.due("no row comes", x.count(2), 1);
        Check.due("the tape is empty", x.count(7), 0);
        Check.due("the next one comes behind", Check.tape(x, "8,r,b;").rows(0), 2);
        Check.due("row(0, 1, 0)", x.row(0, 1, 0), 8000);
    }

    private static void faults() {
        bad("1,p,a", 1, 5);
        bad("1,p,a; 2", 1, 8);
        bad("1,p,a;2,q", 1, 9);
        bad("1,p;", 1, 3);
        bad("1;", 1, 1);
        bad("1 p,a;", 1, 2);
        bad("1,p,q,a;", 2, 4);
        bad("1,p,a,", 1, 5);
        bad("1,p,a;;", 1, 6);
        bad("p,1,a;", 1, 0);
        bad("1,2,a;", 1, 2);
        bad("1,p,5;", 1, 4);
        bad("is,p,a;", 1, 0);
        bad("1,s,a;", 2, 2);
        bad("1,a,a;", 2, 2);
        bad("1,is,a;", 2, 2);
        bad("1,p,d;", 2, 4);
        bad("1,p,p;", 2, 4);
        bad("1,p,else;", 2, 4);
        bad("1,p,a;2000000,p,a;", 3, 6);
        bad("1,s,a;2000000,p,a;", 2, 2);
        bad("1,abcdefghijklm,a;", 1, 2);
        bad("1,pq,a;", 2, 2);
    }

    private static String many(int rows) {
        StringBuilder text = new StringBuilder();
        for (int i = 0; i < rows; i++) {
            text.append(i % 10).append(",p,a;");
        }
        return text.toString();
    }

    private static void room(GainTrees x, int set, String row, int kind, int place) {
        int before = x.count(2 + set);
        Check.due("rows() of " + row, Check.tape(x, row).rows(set), -1);
        Check.due("fault(0) of " + row, x.fault(0), kind);
        Check.due("fault(1) of " + row, x.fault(1), place);
        Check.due("no row comes", x.count(2 + set), before);
    }

    private static void room() {
        GainTrees x = Check.bench(NAMES, many(199));
        room(x, 0, "1,p,a;2,q,b;", 4, 6);
        room(x, 0, "1,p,a;  2", 4, 8);
        room(x, 0, "1,p,a;q", 1, 6);
        room(x, 0, "1,p,a;3000000", 3, 6);
        room(x, 0, "1,p,d;2,q,b;", 2, 4);
        Check.due("the last one", Check.tape(x, "1,p,a;").rows(0), 200);
        Check.due("none more", Check.tape(x, "").rows(0), 200);
        room(x, 0, "1,p,a;", 4, 0);
        Check.due("a hundred", Check.tape(x, many(100)).rows(1), 100);
        room(x, 1, "1,p,a;", 4, 0);
        Check.due("clear(1)", x.clear(1), 100);
        room(x, 1, many(101), 4, 600);
        GainTrees y = Check.bench("classes a,b;x:p,q;", "");
        Check.due("a hundred", Check.tape(y, "p,a;".repeat(100)).rows(1), 100);
        room(y, 1, "p,a;", 4, 0);
        room(y, 1, "s,a;", 2, 0);
        room(y, 1, "1,a;", 1, 0);
    }

    private static void refusals() {
        GainTrees x = new GainTrees();
        Check.tape(x, "1,p,a;");
        Check.throwsArgument("rows(2) without names", () -> x.rows(2));
        Check.throwsState("rows(0) without names", () -> x.rows(0));
        Check.throwsState("rows(1) without names", () -> x.rows(1));
        Check.due("the tape stays", x.count(7), 6);
        Check.tape(x, NAMES).names();
        Check.tape(x, "1,p,a;");
        Check.throwsArgument("rows(2)", () -> x.rows(2));
        Check.throwsArgument("rows(-1)", () -> x.rows(-1));
        Check.due("the tape stays", x.count(7), 6);
        Check.due("rows(0)", x.rows(0), 1);
    }

    private static void clearing() {
        GainTrees x = Check.bench(NAMES, "1,p,a;2,q,b;");
        Check.tape(x, "1,p,a;2,q,b;3,r,c;").rows(1);
        x.grow(0, 1, 60);
        Check.throwsArgument("clear(2)", () -> x.clear(2));
        Check.throwsArgument("clear(-1)", () -> x.clear(-1));
        Check.due("clear(1)", x.clear(1), 3);
        Check.due("clear(1) again", x.clear(1), 0);
        Check.due("count(2)", x.count(2), 2);
        Check.due("clear(0)", x.clear(0), 2);
        Check.due("count(2)", x.count(2), 0);
        Check.due("the tree stays", x.count(4), 3);
        Check.due("its rows stay", x.node(0, 3), 2);
        Check.throwsNoElement("no row", () -> x.row(0, 0, 0));
        Check.due("rows(0)", Check.tape(x, "5,r,c;").rows(0), 1);
        Check.due("row(0, 0, 0)", x.row(0, 0, 0), 5000);
    }

    private static void cells() {
        GainTrees x = Check.bench(NAMES, "1,p,a;2,q,b;");
        Check.throwsNoElement("row 2", () -> x.row(0, 2, 0));
        Check.throwsNoElement("row -1", () -> x.row(0, -1, 0));
        Check.throwsNoElement("attribute 3", () -> x.row(0, 0, 3));
        Check.throwsNoElement("attribute -1", () -> x.row(0, 0, -1));
        Check.throwsNoElement("no row of holdout", () -> x.row(1, 0, 0));
        Check.throwsArgument("set 2", () -> x.row(2, 9, 9));
        Check.throwsArgument("set -1", () -> x.row(-1, 0, 0));
    }
}
