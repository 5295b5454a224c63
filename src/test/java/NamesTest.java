/** Promises 5 and 8: names() and fault(), and the tokens, which are those of all texts. */
public final class NamesTest {
    private NamesTest() {
    }

    private static final String EIGHT = "a0:measured;a1:measured;a2:measured;a3:measured;"
            + "a4:measured;a5:measured;a6:measured;a7:measured;";

    public static void main(String[] args) {
        goodTexts();
        syntax();
        names();
        room();
        firstFaultAndLeastKind();
        faultChangesNothingElse();
        goodOneStartsAnew();
        faultNumbers();
        Check.end("NamesTest");
    }

    private static void good(String text, int attributes) {
        GainTrees x = new GainTrees();
        Check.due("names() of " + text, Check.tape(x, text).names(), attributes);
        Check.due("fault(0)", x.fault(0), 0);
        Check.due("fault(1)", x.fault(1), -1);
        Check.due("count(1)", x.count(1), attributes);
        Check.due("count(7)", x.count(7), 0);
    }

    private static void bad(String text, int kind, int place) {
        GainTrees x = new GainTrees();
        Check.due("names() of " + text, Check.tape(x, text).names(), -1);
        Check.due("fault(0) of " + text, x.fault(0), kind);
        Check.due("fault(1) of " + text, x.fault(1), place);
        Check.due("count(0)", x.count(0), 0);
        Check.due("count(1)", x.count(1), 0);
        Check.due("count(7)", x.count(7), 0);
    }

    private static void goodTexts() {
        good("classes a,b;x:measured;", 1);
        good("classes a,b;x:p,q;", 1);
        good("classes a,b,c,d,e,f;x:p,q,r,s,t,u,v,w;y:measured;", 2);
        good("classes a,b;" + EIGHT, 8);
        good(" \nclasses\na , b ; x : measured\n;\n\ny: p ,q; ", 2);
        good("classes a,b;a:a,b;b:measured;", 2);
        good("classes abcdefghijkl,b;z_9zzzzzzzzz:p_,q0;", 1);
        good("classes isnt,classe;bye:elses,mea,measuredly;", 1);
    }

    private static void syntax() {
        bad("", 1, 0);
        bad("   ", 1, 3);
        bad("class a,b;x:measured;", 1, 0);
        bad("measured a,b;x:measured;", 1, 0);
        bad("classesa,b;x:measured;", 1, 0);
        bad("classes a;x:measured;", 1, 9);
        bad("classes a,;x:measured;", 1, 10);
        bad("classes a b;x:measured;", 1, 10);
        bad("classes a,b,;x:measured;", 1, 12);
        bad("classes a,b;", 1, 12);
        bad("classes a,b; \n", 1, 14);
        bad("classes a,b;x measured;", 1, 14);
        bad("classes a,b;x:;", 1, 14);
        bad("classes a,b;x:measured", 1, 22);
        bad("classes a,b;x:measured,q;", 1, 22);
        bad("classes a,b;x:p;", 1, 15);
        bad("classes a,b;x:p,q", 1, 17);
        bad("classes a,b;x:p:q;", 1, 15);
        bad("classes a,b;x:p,q;;", 1, 18);
        bad("classes a,b;x:5,q;", 1, 14);
        bad("classes 5,b;x:p,q;", 1, 8);
        bad("classes a,b;5:p,q;", 1, 12);
        bad("classes a,b;{:p,q;", 1, 12);
        bad("classes A,b;x:p,q;", 1, 8);
        bad("classes aB,b;x:p,q;", 1, 9);
        bad("classes _a,b;x:p,q;", 1, 8);
        bad("classes a\t,b;x:p,q;", 1, 9);
        bad("classes a,b;x:abcdefghijklm,q;", 1, 14);
        bad("classes a,b;x:p.,q;", 1, 15);
        bad("classes a,b;x:p<=q;", 1, 15);
        bad("classes a,b;x:p<q;", 1, 15);
        bad("classes a,b;x:p-q;", 1, 15);
    }

    private static void names() {
        String[] reserved = {"classes", "measured", "is", "by", "else"};
        for (String word : reserved) {
            bad("classes " + word + ",b;x:p,q;", 2, 8);
            bad("classes a," + word + ";x:p,q;", 2, 10);
            bad("classes a,b;" + word + ":p,q;", 2, 12);
            bad("classes a,b;x:p," + word + ";", 2, 16);
            if (!word.equals("measured")) {
                bad("classes a,b;x:" + word + ",p;", 2, 14);
            }
        }
        bad("classes a,b,a;x:p,q;", 2, 12);
        bad("classes a,b;x:p,q;y:p,q;x:p,q;", 2, 24);
        bad("classes a,b;x:p,q,r,q;", 2, 20);
    }

    private static void room() {
        bad("classes a,b,c,d,e,f,g;x:p,q;", 4, 20);
        bad("classes a,b;" + EIGHT + "b:p,q;", 4, 12 + EIGHT.length());
        bad("classes a,b;x:a,b,c,d,e,f,g,h,i;", 4, 30);
    }

    private static void firstFaultAndLeastKind() {
        bad("classes a,b,c,d,e,f,a;x:p,q;", 2, 20);
        bad("classes a,b,c,d,e,f,is;x:p,q;", 2, 20);
        bad("classes a,b,c,d,e,f,5;x:p,q;", 1, 20);
        bad("classes a,b;" + EIGHT + "a3:p,q;", 2, 12 + EIGHT.length());
        bad("classes a,b;x:a,b,c,d,e,f,g,h,h;", 2, 30);
        bad("classes a,a;x:?", 2, 10);
        bad("classes a ?,a;", 1, 10);
    }

    private static void faultChangesNothingElse() {
        GainTrees x = Check.bench("classes a,b;x:measured;y:p,q,r;", "1,p,a;2,q,b;");
        x.grow(0, 1, 60);
        x.rules();
        x.write(0);
        int[] before = new int[14];
        for (int what = 0; what < 14; what++) {
            before[what] = x.count(what);
        }
        Check.due("names()", Check.tape(x, "classes k,l,m;z:s,t,u,v;y:q").names(), -1);
        for (int what = 0; what < 14; what++) {
            Check.due("count(" + what + ")", x.count(what), before[what]);
        }
        Check.due("the names stay", Check.written(x, 0), "by x <= 1 is a else is b");
        Check.due("a row of theirs", Check.tape(x, "1,r").decide(1), 0);
    }

    private static void goodOneStartsAnew() {
        GainTrees x = Check.bench("classes a,b;x:measured;y:p,q,r;", "1,p,a;2,q,b;");
        Check.due("rows(1)", Check.tape(x, "1,p,a;").rows(1), 1);
        x.grow(0, 1, 60);
        x.rules();
        Check.due("names()", Check.tape(x, "classes k,l,m;z:s,t,u,v;").names(), 1);
        int[] want = {3, 1, 0, 0, 0, 0, -1, 0, 0, 0, 4, -1};
        for (int what = 0; what < want.length; what++) {
            Check.due("count(" + what + ")", x.count(what), want[what]);
        }
        Check.throwsState("no tree", () -> x.prune());
        Check.throwsNoElement("no rule", () -> x.rule(0, 0));
        Check.due("rows of the new names", Check.tape(x, "v,m;").rows(0), 1);
    }

    private static void faultNumbers() {
        GainTrees x = new GainTrees();
        for (int what : new int[] {-1, 2, 3, Integer.MAX_VALUE, Integer.MIN_VALUE}) {
            Check.due("fault(" + what + ")", x.fault(what), -1);
        }
        Check.tape(x, "classes a,b").names();
        Check.due("fault(0)", x.fault(0), 1);
        Check.due("fault(1)", x.fault(1), 11);
        Check.due("fault(2)", x.fault(2), -1);
        Check.tape(x, "classes a,b;x:p,q;").names();
        Check.due("fault(0) of the latest", x.fault(0), 0);
        Check.due("fault(1) of the latest", x.fault(1), -1);
        Check.tape(x, "p,c;").rows(0);
        Check.due("fault(0)", x.fault(0), 2);
        Check.due("fault(1)", x.fault(1), 2);
        Check.throwsArgument("rows(2)", () -> x.rows(2));
        Check.due("a call that throws reads no text", x.fault(0), 2);
    }
}
