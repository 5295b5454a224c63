/** Term I, sentence by sentence: what is too small, too large, empty, full or refused in a text. */
public final class EdgesOfTextsTest {
    private static final String NAMES = "classes a,b,c;x:measured;y:p,q,r;";
    private static final int GOOD = 0;
    private static final int SYNTAX = 1;
    private static final int NAME = 2;
    private static final int RANGE = 3;
    private static final int ROOM = 4;

    private EdgesOfTextsTest() {
    }

    public static void main(String[] args) {
        fullTape();
        longestTokens();
        blanks();
        firstBytes();
        laterBytes();
        longWords();
        digits();
        manyDigits();
        minusZero();
        loneDots();
        signs();
        reserved();
        fewestNames();
        valuesOrMeasured();
        emptyRows();
        rowTexts();
        treeTexts();
        firstFault();
        leastKind();
        cutShort();
        wrongKinds();
        toldTwice();
        toldInOtherPlaces();
        namesThatAreNone();
        valuesInOrder();
        range();
        roomForNames();
        roomForRows();
        roomForForks();
        Check.end("EdgesOfTextsTest");
    }

    // ---- what reads
    private static void faultIs(GainTrees x, String text, int kind, int place) {
        String told = text.length() > 80 ? text.substring(0, 80) + " .." : text;
        Check.due("fault(0) of " + told, x.fault(0), kind);
        Check.due("fault(1) of " + told, x.fault(1), kind == GOOD ? -1 : place);
        Check.due("count(7) behind " + told, x.count(7), 0);
    }

    private static GainTrees names(String text, int kind, int place) {
        GainTrees x = new GainTrees();
        Check.due("names() is none", Check.tape(x, text).names() == -1, kind != GOOD);
        faultIs(x, text, kind, place);
        return x;
    }

    private static GainTrees rows(String text, int kind, int place) {
        GainTrees x = Check.bench(NAMES, "");
        Check.due("rows(0) is none", Check.tape(x, text).rows(0) == -1, kind != GOOD);
        faultIs(x, text, kind, place);
        return x;
    }

    private static GainTrees row(String text, int kind, int place) {
        GainTrees x = Check.bench(NAMES, "");
        Check.due("tree()", Check.tape(x, "is b").tree(), 1);
        Check.due("decide(0)", Check.tape(x, text).decide(0), kind == GOOD ? 1 : -1);
        faultIs(x, text, kind, place);
        return x;
    }

    private static GainTrees tree(String text, int kind, int place) {
        GainTrees x = Check.bench(NAMES, "");
        Check.due("tree() is none", Check.tape(x, text).tree() == -1, kind != GOOD);
        faultIs(x, text, kind, place);
        return x;
    }

    // ---- the tape and its tokens
    private static void fullTape() {
        Check.sentence("I", "THE TAPE has at most 4000 bytes.");
        GainTrees x = Check.bench("classes a,b;x:p,q;", "");
        Check.due("rows of 4000 bytes", Check.tape(x, (" ".repeat(16) + "p,a;").repeat(200)).rows(0), 200);
        tree(" ".repeat(3996) + "is a", GOOD, 0);
        tree(" ".repeat(3998) + "is", SYNTAX, 4000);
        tree("is a" + "\n".repeat(3996), GOOD, 0);
        tree(" ".repeat(4000), SYNTAX, 4000);
        tree("a".repeat(4000), SYNTAX, 0);
        tree(" ".repeat(3999) + "?", SYNTAX, 3999);
        GainTrees y = Check.bench(NAMES, "");
        Check.tape(y, "is a" + " ".repeat(3996));
        Check.due("feed", y.feed(0, 0, 0, 0, 0), -1);
        Check.due("tree() of the bytes that were there", y.tree(), 1);
    }

    private static void longestTokens() {
        Check.sentence("I", "TOKENS, each as long as it can be");
        names("classesa,b;x:p,q;", SYNTAX, 0);
        names("classes a,b;x:measuredly,q;", GOOD, 0);
        tree("isa", SYNTAX, 0);
        tree("is ab", NAME, 3);
        tree("byx<=1 is a else is b", SYNTAX, 0);
        tree("by x<=1is a else is b", GOOD, 0);
        tree("by x<=1 is aelse is b", NAME, 11);
        tree("by x<==1 is a else is b", SYNTAX, 6);
        tree("by x<<=1 is a else is b", SYNTAX, 4);
        tree("by x< =1 is a else is b", SYNTAX, 4);
        Check.due("a number", rows("12,p,a;", GOOD, 0).row(0, 0, 0), 12000);
        Check.due("a number", rows("12.25,p,a;", GOOD, 0).row(0, 0, 0), 12250);
        rows("1 2,p,a;", SYNTAX, 2);
        rows("1 .5,p,a;", SYNTAX, 2);
        rows("1,pq,a;", NAME, 2);
        rows("1,p q,a;", SYNTAX, 4);
        rows("1,p,aa;", NAME, 4);
    }

    /** Each byte there is stands between two WORDS. */
    private static void blanks() {
        Check.sentence("I", "between them blanks (10, 32)");
        for (int b = 0; b < 256; b++) {
            boolean ofWord = b >= 'a' && b <= 'z' || b >= '0' && b <= '9' || b == '_';
            boolean blank = b == 10 || b == 32;
            tree("is" + (char) b + "a", blank ? GOOD : SYNTAX, ofWord ? 0 : 2);
        }
        tree(" \n is \n\n a\n ", GOOD, 0);
        tree("by y{p:is a q:is b r:is c}", GOOD, 0);
        tree(" by y { p : is a\nq : is b\nr : is c\n} ", GOOD, 0);
        row("1,p", GOOD, 0);
        row("\n1 , p\n", GOOD, 0);
    }

    private static void firstBytes() {
        Check.sentence("I", "WORDS: a letter a .. z ..; (What begins no token .. is none, at its first byte");
        for (int b = 0; b < 256; b++) {
            boolean good = b >= 'a' && b <= 'z' || b == 10 || b == 32;
            names("classes " + (char) b + "x,y;z:p,q;", good ? GOOD : SYNTAX, 8);
        }
    }

    private static void laterBytes() {
        Check.sentence("I", "then letters, digits, _");
        for (int b = 0; b < 256; b++) {
            boolean ofWord = b >= 'a' && b <= 'z' || b >= '0' && b <= '9' || b == '_';
            boolean blank = b == 10 || b == 32;
            names("classes x" + (char) b + "y,v;z:p,q;", ofWord || b == ',' ? GOOD : SYNTAX, blank ? 10 : 9);
        }
        names("classes x0123456789,x_________9z;z_:p_,q_0;", GOOD, 0);
    }

    private static void longWords() {
        Check.sentence("I", "(12 bytes at most); a WORD of more bytes .. is none, at its first byte");
        String twelve = "abcdefghijkl";
        names("classes " + twelve + ",b;" + twelve + ":" + twelve + ",q;", GOOD, 0);
        names("classes a,a2345678901_;x:p,q;", GOOD, 0);
        names("classes " + twelve + "m,b;x:p,q;", SYNTAX, 8);
        names("classes a," + twelve + "m;x:p,q;", SYNTAX, 10);
        names("classes a,b;" + twelve + "m:p,q;", SYNTAX, 12);
        names("classes a,b;x:" + twelve + "m,q;", SYNTAX, 14);
        names("classes a,b;x:p," + twelve + "m;", SYNTAX, 16);
        names("classes a,b;x:measured_____;", SYNTAX, 14);
        names("classes " + "a".repeat(3992), SYNTAX, 8);
        GainTrees x = Check.bench("classes a," + twelve + ";x:" + twelve + ",q;", "");
        Check.due("rows(0)", Check.tape(x, twelve + "," + twelve + ";").rows(0), 1);
        Check.due("rows(0)", Check.tape(x, twelve + "m," + twelve + ";").rows(0), -1);
        faultIs(x, "13 bytes, 12 of them a VALUE", SYNTAX, 0);
        Check.due("rows(0)", Check.tape(x, "q," + twelve + "0;").rows(0), -1);
        faultIs(x, "13 bytes, 12 of them a CLASS", SYNTAX, 2);
        Check.due("rows(0)", Check.tape(x, "abcdefghijk,a;").rows(0), -1);
        faultIs(x, "11 bytes of 12", NAME, 0);
        tree("is " + twelve, NAME, 3);
        tree("is " + twelve + "m", SYNTAX, 3);
        tree("by " + twelve + "m", SYNTAX, 3);
        tree("by y{" + twelve + "m:is a", SYNTAX, 5);
        row("1," + twelve, NAME, 2);
        row("1," + twelve + "_", SYNTAX, 2);
    }

    /** Each count of digits ahead of the . and behind it; those ahead are 0s and a 1 at last. */
    private static void digits() {
        Check.sentence("I", "NUMBERS: perhaps - , 1 to 7 digits, perhaps . and 1 to 3 digits; a NUMBER of more digits"
                + " ahead of its . or behind it is none, at its first byte");
        String[] behind = {"", ".", ".5", ".25", ".125", ".1250", ".00000"};
        int[] thousandths = {0, 0, 500, 250, 125};
        for (String minus : new String[] {"", "-"}) {
            for (int ahead = 0; ahead <= 9; ahead++) {
                for (int j = 0; j < behind.length; j++) {
                    String number = minus + (ahead == 0 ? "" : "0".repeat(ahead - 1) + "1") + behind[j];
                    if (number.isEmpty()) {
                        continue;
                    }
                    boolean whole = ahead >= 1 && ahead <= 7;
                    boolean good = whole && j != 1 && j <= 4;
                    int place = whole && j == 1 ? number.length() - 1 : 0;
                    GainTrees x = rows(number + ",p,a;", good ? GOOD : SYNTAX, place);
                    if (good) {
                        int size = 1000 + thousandths[j];
                        Check.due(number, x.row(0, 0, 0), minus.isEmpty() ? size : -size);
                    }
                    row(number + ",p", good ? GOOD : SYNTAX, place);
                    tree("by x<=" + number + " is a else is b", good ? GOOD : SYNTAX, 6 + place);
                }
            }
        }
    }

    /** More digits than an int or a long can hold: a reader that wraps around would take them. */
    private static void manyDigits() {
        Check.sentence("I", "a NUMBER of more digits ahead of its . or behind it is none, at its first byte");
        String[] none = {"4294967297", "18446744073709551617", "-4294967296", "340282366920938463463374607431768211457",
            "9".repeat(3900), "0".repeat(3900), "1." + "0".repeat(3900), "1.4294967296", "10000000", "-10000000",
            "00000000", "0.0000", "10000000.000", "99999999999.9999999"};
        for (String number : none) {
            rows(number + ",p,a;", SYNTAX, 0);
            row(number + ",p", SYNTAX, 0);
            tree("by x<=" + number + " is a else is b", SYNTAX, 6);
            rows("1,p,a; " + number, SYNTAX, 7);
        }
    }

    private static void minusZero() {
        Check.sentence("I", "(-0 is 0)");
        for (String zero : new String[] {"-0", "0", "-0.0", "-0.000", "-0000000", "-0000000.000", "0000000"}) {
            Check.due(zero, rows(zero + ",p,a;", GOOD, 0).row(0, 0, 0), 0);
            GainTrees x = tree("by x<=" + zero + " is a else is b", GOOD, 0);
            Check.due("its cut", x.node(0, 1), 0);
            Check.due("written", Check.written(x, 0), "by x <= 0 is a else is b");
            Check.due("a row of it", Check.tape(x, zero + ",p").decide(0), 0);
        }
        Check.due("the least below it", rows("-0.001,p,a;", GOOD, 0).row(0, 0, 0), -1);
    }

    private static void loneDots() {
        Check.sentence("I", "a . that no digit is behind belongs to no NUMBER");
        rows("1.,p,a;", SYNTAX, 1);
        rows("1.", SYNTAX, 1);
        rows("1. 5,p,a;", SYNTAX, 1);
        rows("1.-5,p,a;", SYNTAX, 1);
        rows("1.x,p,a;", SYNTAX, 1);
        rows("1..5,p,a;", SYNTAX, 1);
        rows("1.5.,p,a;", SYNTAX, 3);
        rows("1.5.5,p,a;", SYNTAX, 3);
        rows("-1.,p,a;", SYNTAX, 2);
        rows("1000001.,p,a;", RANGE, 0);
        rows("12345678.,p,a;", SYNTAX, 0);
        rows(".,p,a;", SYNTAX, 0);
        rows("-.,p,a;", SYNTAX, 0);
        rows("1,p,a.;", SYNTAX, 5);
        tree("by x<=1. is a else is b", SYNTAX, 7);
        tree("by x<=1.", SYNTAX, 7);
        row("1.,p", SYNTAX, 1);
        row("1,p.", SYNTAX, 3);
    }

    private static void signs() {
        Check.sentence("I", "signs , : ; { } <= .");
        for (String sign : new String[] {",", ":", ";", "{", "}", "<=", ".", "<", "=", "=<", ">", ">=", "-", "+", "\"", "?"}) {
            names(sign, SYNTAX, 0);
            rows(sign, SYNTAX, 0);
            row(sign, SYNTAX, 0);
            tree(sign, SYNTAX, 0);
            tree("is a " + sign, SYNTAX, 5);
            rows("1,p,a;" + sign, SYNTAX, 6);
        }
        tree("by x<", SYNTAX, 4);
        tree("by x<=", SYNTAX, 6);
    }

    // ---- names and the four texts
    private static void reserved() {
        Check.sentence("I", "RESERVED are classes measured is by else: no names. 2 NAME: RESERVED where a name must stand");
        for (String word : new String[] {"classes", "measured", "is", "by", "else"}) {
            names("classes " + word + ",b;x:p,q;", NAME, 8);
            names("classes a," + word + ";x:p,q;", NAME, 10);
            names("classes a,b;" + word + ":p,q;", NAME, 12);
            names("classes a,b;x:p,q;" + word + ":p,q;", NAME, 18);
            names("classes a,b;x:p," + word + ";", NAME, 16);
            names("classes a,b;x:p,q," + word + ";", NAME, 18);
            boolean measured = word.equals("measured");
            names("classes a,b;x:" + word + ",q;", measured ? SYNTAX : NAME, measured ? 22 : 14);
            rows("1," + word + ",a;", NAME, 2);
            rows("1,p," + word + ";", NAME, 4);
            row("1," + word, NAME, 2);
            tree("is " + word, NAME, 3);
            tree("by " + word + "<=1 is a else is b", NAME, 3);
            tree("by y{" + word + ":is a q:is b r:is c}", NAME, 5);
            tree("by y{p:is a " + word + ":is b r:is c}", NAME, 12);
            names("classes a " + word, SYNTAX, 10);
            rows(word, SYNTAX, 0);
            rows("1,p,a " + word, SYNTAX, 6);
            tree("is a " + word, SYNTAX, 5);
            tree("by x " + word, SYNTAX, 5);
            if (!word.equals("classes")) {
                names(word + " a,b;x:p,q;", SYNTAX, 0);
            }
            if (!word.equals("is") && !word.equals("by")) {
                tree(word, SYNTAX, 0);
            }
            if (!word.equals("else")) {
                tree("by x<=1 is a " + word, SYNTAX, 13);
            }
        }
        names("classes if,then;and:or,not;class:classe,classess;", GOOD, 0);
        names("classes isa,by_;elsee:measure,measured0;i:b,e;", GOOD, 0);
    }

    private static void fewestNames() {
        Check.sentence("I", "NAMES TEXT: 'classes' WORD ',' WORD { ',' WORD } ';' ATTRIBUTE { ATTRIBUTE }");
        names("", SYNTAX, 0);
        names("classes", SYNTAX, 7);
        names("classes;", SYNTAX, 7);
        names("classes a;x:p,q;", SYNTAX, 9);
        names("classes a,;x:p,q;", SYNTAX, 10);
        names("classes a,b;", SYNTAX, 12);
        names("classes a,b", SYNTAX, 11);
        names("classes ,a,b;x:p,q;", SYNTAX, 8);
        names("classes a,b,;x:p,q;", SYNTAX, 12);
        names("classes a,b;;x:p,q;", SYNTAX, 12);
        GainTrees x = names("classes a,b;x:measured;", GOOD, 0);
        Check.due("count(0)", x.count(0), 2);
        Check.due("count(1)", x.count(1), 1);
        Check.due("count(10)", x.count(10), 0);
        names("classes a,b;x:measured;classes c,d;", NAME, 23);
    }

    private static void valuesOrMeasured() {
        Check.sentence("I", "ATTRIBUTE: WORD ':' ( 'measured' | WORD ',' WORD { ',' WORD } ) ';' (its VALUES)");
        names("classes a,b;x:;", SYNTAX, 14);
        names("classes a,b;x:p;", SYNTAX, 15);
        names("classes a,b;x:p,;", SYNTAX, 16);
        names("classes a,b;x:p,q,;", SYNTAX, 18);
        names("classes a,b;x:,p,q;", SYNTAX, 14);
        names("classes a,b;x:measured,measured;", SYNTAX, 22);
        names("classes a,b;x:measured p;", SYNTAX, 23);
        names("classes a,b;x::p,q;", SYNTAX, 14);
        names("classes a,b;x,p,q;", SYNTAX, 13);
        GainTrees x = names("classes a,b;x:p,q;y:p,q,r,s,t,u,v,w;z:measured;", GOOD, 0);
        Check.due("count(10)", x.count(10), 2);
        Check.due("count(11)", x.count(11), 8);
        Check.due("count(12)", x.count(12), 0);
        Check.due("count(13)", x.count(13), -1);
    }

    private static void emptyRows() {
        Check.sentence("I", "ROWS TEXT: { value { ',' value } ',' WORD ';' }");
        Check.due("no row", rows("", GOOD, 0).count(2), 0);
        Check.due("no row", rows(" \n", GOOD, 0).count(2), 0);
        Check.due("one row", rows("1,p,a;", GOOD, 0).count(2), 1);
        rows(";", SYNTAX, 0);
        rows("1,p,a", SYNTAX, 5);
        rows("1,p,a;;", SYNTAX, 6);
        rows(",1,p,a;", SYNTAX, 0);
        rows("1,p;", SYNTAX, 3);
        rows("1,a;", NAME, 2);
        rows("1,p,a,b;", SYNTAX, 5);
        rows("1,p,q,a;", NAME, 4);
        rows("1,p,a:", SYNTAX, 5);
        GainTrees x = Check.bench(NAMES, "1,p,a;");
        Check.due("an empty text behind a row", Check.tape(x, "").rows(0), 1);
        Check.due("an empty text of the other table", Check.tape(x, "").rows(1), 0);
    }

    private static void rowTexts() {
        Check.sentence("I", "ROW TEXT: value { ',' value }, likewise, without a CLASS.");
        row("1,p", GOOD, 0);
        row("", SYNTAX, 0);
        row("1", SYNTAX, 1);
        row("1,", SYNTAX, 2);
        row(",1,p", SYNTAX, 0);
        row("1,p,", SYNTAX, 3);
        row("1,p,a", SYNTAX, 3);
        row("1,p;", SYNTAX, 3);
        row("1,p 1", SYNTAX, 4);
        GainTrees x = Check.bench("classes a,b;x:measured;", "1,a;");
        x.grow(0, 1, 60);
        Check.due("of one ATTRIBUTE", Check.tape(x, "7").decide(0), 0);
        Check.due("of two", Check.tape(x, "7,7").decide(0), -1);
        faultIs(x, "7,7", SYNTAX, 1);
    }

    private static void treeTexts() {
        Check.sentence("I", "TREE TEXT: tree: 'is' WORD | 'by' WORD '<=' NUMBER tree 'else' tree | 'by' WORD '{' .. '}'");
        tree("", SYNTAX, 0);
        tree("is a", GOOD, 0);
        tree("is a is a", SYNTAX, 5);
        tree("is a by x<=1 is a else is b", SYNTAX, 5);
        tree("by x<=1 is a else is b else is c", SYNTAX, 23);
        tree("by x<=1 is a is b", SYNTAX, 13);
        tree("by x<=1 else is b", SYNTAX, 8);
        tree("by x<=1 is a else else is b", SYNTAX, 18);
        tree("by x{p:is a q:is b r:is c}", SYNTAX, 4);
        tree("by y<=1 is a else is b", SYNTAX, 4);
        tree("by y{}", SYNTAX, 5);
        tree("by y{p:}", SYNTAX, 7);
        tree("by y{p:is a q:is b}", SYNTAX, 18);
        tree("by y{p:is a q:is b r:is c", SYNTAX, 25);
        tree("by y{p:is a q:is b r:is c p:is a}", SYNTAX, 26);
        tree("by y{p:is a q:is b r:is c else is a}", SYNTAX, 26);
        tree("by y{p:is a,q:is b,r:is c}", SYNTAX, 11);
        tree("by y{p is a q:is b r:is c}", SYNTAX, 7);
        tree("{is a}", SYNTAX, 0);
        Check.due("nodes", tree("by y{p:by x<=1 is a else is b q:is c r:by y{p:is a q:is a r:is a}}", GOOD, 0).count(4), 9);
    }

    // ---- faults
    private static void firstFault() {
        Check.sentence("I", "FAULTS, the first token at which there is one");
        names("classes a,a;x:?", NAME, 10);
        names("classes a,?;a:p,p;", SYNTAX, 10);
        names("classes is,5", NAME, 8);
        rows("2000000,s,d?", RANGE, 0);
        rows("1,s,a;2000000,p,a;", NAME, 2);
        rows("1,p,a;2000000,s,d;?", RANGE, 6);
        rows("?,s,d;", SYNTAX, 0);
        row("-2000000,s?", RANGE, 0);
        row("1,s?", NAME, 2);
        tree("is d?", NAME, 3);
        tree("by z<=2000000 ?", NAME, 3);
        tree("by x<=2000000 is d ?", RANGE, 6);
        tree("by x<=2 is d else ?", NAME, 11);
    }

    private static void leastKind() {
        Check.sentence("I", "of it the least kind");
        names("classes a,b,c,d,e,f,a;x:p,q;", NAME, 20);
        names("classes a,b,c,d,e,f,by;x:p,q;", NAME, 20);
        names("classes a,b,c,d,e,f,7;x:p,q;", SYNTAX, 20);
        names("classes a,b,c,d,e,f,;x:p,q;", SYNTAX, 20);
        names("classes a,b,c,d,e,f,", SYNTAX, 20);
        names("classes a,b;x:a,b,c,d,e,f,g,h,a;", NAME, 30);
        names("classes a,b;x:a,b,c,d,e,f,g,h,measured;", NAME, 30);
        names("classes a,b;x:a,b,c,d,e,f,g,h,{;", SYNTAX, 30);
        names("classes a,b;x:a,b,c,d,e,f,g,h,", SYNTAX, 30);
        String eight = eightAttributes();
        names("classes a,b;" + eight + "a7:p,q;", NAME, 12 + eight.length());
        names("classes a,b;" + eight + "else:p,q;", NAME, 12 + eight.length());
        names("classes a,b;" + eight + "7:p,q;", SYNTAX, 12 + eight.length());
        names("classes a,b;" + eight + ";", SYNTAX, 12 + eight.length());
        for (int set = 0; set < 2; set++) {
            GainTrees x = full(set, "classes a,b;x:measured;y:p,q;", "1,p,a;");
            rowFault(x, set, "?", SYNTAX, 0);
            rowFault(x, set, "p,p,a;", SYNTAX, 0);
            rowFault(x, set, "12345678,p,a;", SYNTAX, 0);
            rowFault(x, set, "1000000.001,p,a;", RANGE, 0);
            rowFault(x, set, "1000000,p,a;", ROOM, 0);
            GainTrees y = full(set, "classes a,b;y:p,q;x:measured;", "p,1,a;");
            rowFault(y, set, "1,p,a;", SYNTAX, 0);
            rowFault(y, set, "r,1,a;", NAME, 0);
            rowFault(y, set, "is,1,a;", NAME, 0);
            rowFault(y, set, "p,1,a;", ROOM, 0);
            rowFault(y, set, "  p", ROOM, 2);
        }
    }

    private static String[] tokensOf(String text) {
        return text.split(" ");
    }

    /** Each text is cut behind each of its tokens; one blank stands behind each. */
    private static void cutShort() {
        Check.sentence("I", "(.. at the text's length, if more must come)");
        String text = "classes a , b , c ; x : measured ; y : p , q ;";
        StringBuilder start = new StringBuilder();
        for (String token : tokensOf(text)) {
            names(start.toString(), start.toString().endsWith("measured ; ") ? GOOD : SYNTAX, start.length());
            start.append(token).append(' ');
        }
        names(start.toString(), GOOD, 0);
        start.setLength(0);
        for (String token : tokensOf("1 , p , a ; -2.5 , q , b ;")) {
            boolean whole = start.length() == 0 || start.toString().endsWith("; ");
            rows(start.toString(), whole ? GOOD : SYNTAX, start.length());
            start.append(token).append(' ');
        }
        start.setLength(0);
        for (String token : tokensOf("1 , p")) {
            row(start.toString(), SYNTAX, start.length());
            start.append(token).append(' ');
        }
        row(start.toString(), GOOD, 0);
        start.setLength(0);
        for (String token : tokensOf("by x <= -2.5 by y { p : is a q : is b r : is c } else is b")) {
            tree(start.toString(), SYNTAX, start.length());
            start.append(token).append(' ');
        }
        tree(start.toString(), GOOD, 0);
    }

    private static void wrongKinds() {
        Check.sentence("I", "1 SYNTAX: none with which a text goes on (a value of the wrong kind too ..)");
        rows("p,p,a;", SYNTAX, 0);
        rows("1,1,a;", SYNTAX, 2);
        rows("1,p,1;", SYNTAX, 4);
        rows("1,-0.5,a;", SYNTAX, 2);
        rows("a,p,1;", SYNTAX, 0);
        rows("x,p,a;", SYNTAX, 0);
        rows("1,2000000,a;", SYNTAX, 2);
        row("p,p", SYNTAX, 0);
        row("1,1", SYNTAX, 2);
        row("1,2000000", SYNTAX, 2);
        tree("is 1", SYNTAX, 3);
        tree("by 1", SYNTAX, 3);
        tree("by x<=p is a else is b", SYNTAX, 6);
        tree("by y{1:is a", SYNTAX, 5);
        tree("1", SYNTAX, 0);
        names("classes a,1;x:p,q;", SYNTAX, 10);
        names("classes a,b;1:p,q;", SYNTAX, 12);
        names("classes a,b;x:1,q;", SYNTAX, 14);
        names("1 a,b;x:p,q;", SYNTAX, 0);
    }

    private static void toldTwice() {
        Check.sentence("I", "a CLASS, an ATTRIBUTE, a VALUE of an ATTRIBUTE told twice");
        names("classes a,a;x:p,q;", NAME, 10);
        names("classes a,b,c,d,e,a;x:p,q;", NAME, 18);
        names("classes a,b,c,d,e,e;x:p,q;", NAME, 18);
        names("classes abcdefghijkl,abcdefghijkl;x:p,q;", NAME, 21);
        names("classes a,b;x:p,q;x:measured;", NAME, 18);
        names("classes a,b;x:measured;y:p,q;x:p,q;", NAME, 29);
        names("classes a,b;x:p,p;", NAME, 16);
        names("classes a,b;x:a,b,c,d,e,f,g,a;", NAME, 28);
        names("classes a,b;x:a,b,c,d,e,f,g,g;", NAME, 28);
        names("classes a,b;x:p,q;y:p,p;", NAME, 22);
    }

    private static void toldInOtherPlaces() {
        Check.sentence("I", "(told twice:) one WORD is no fault as a CLASS, an ATTRIBUTE and a VALUE of several");
        names("classes a,b;a:a,b;b:b,a;c:measured;", GOOD, 0);
        names("classes a,ab;x:p,pq;y:pq,p;", GOOD, 0);
        names("classes abcdefghijkl,abcdefghijkm,abcdefghijk;x:p,q;", GOOD, 0);
        GainTrees x = Check.bench("classes a,b;b:b,a;a:measured;", "a,1,a;b,2,b;");
        Check.due("a VALUE", x.row(0, 0, 0), 1);
        Check.due("a CLASS", x.row(0, 0, 2), 0);
        Check.due("tree()", Check.tape(x, "by b{b:is a a:by a<=1 is b else is a}").tree(), 5);
    }

    private static void namesThatAreNone() {
        Check.sentence("I", "in the other texts one that is none");
        for (String none : new String[] {"s", "a", "x", "y", "classes", "pp", "p_", "p0"}) {
            rows("1," + none + ",a;", NAME, 2);
            row("1," + none, NAME, 2);
        }
        for (String none : new String[] {"d", "p", "x", "y", "else", "aa", "a_", "a0"}) {
            rows("1,p," + none + ";", NAME, 4);
            tree("is " + none, NAME, 3);
        }
        for (String none : new String[] {"z", "a", "p", "measured", "xx", "x0"}) {
            tree("by " + none + "<=1 is a else is b", NAME, 3);
            tree("by " + none + "{p:is a q:is b r:is c}", NAME, 3);
        }
        GainTrees x = Check.bench("classes a,b;x:p,q;y:r,s;", "");
        Check.due("a VALUE of another ATTRIBUTE", Check.tape(x, "r,r,a;").rows(0), -1);
        faultIs(x, "r,r,a;", NAME, 0);
        Check.due("names of before are none", Check.tape(x, "classes c,d;x:measured;").names(), 1);
        Check.due("rows(0)", Check.tape(x, "1,a;").rows(0), -1);
        faultIs(x, "1,a;", NAME, 2);
        Check.due("tree()", Check.tape(x, "by y{r:is c s:is d}").tree(), -1);
        faultIs(x, "by y{r:is c s:is d}", NAME, 3);
    }

    private static void valuesInOrder() {
        Check.sentence("I", "(of a tree's VALUES: not the next one); all of its VALUES in order");
        tree("by y{q:is a p:is b r:is c}", NAME, 5);
        tree("by y{r:is a", NAME, 5);
        tree("by y{s:is a", NAME, 5);
        tree("by y{p:is a p:is b", NAME, 12);
        tree("by y{p:is a r:is b", NAME, 12);
        tree("by y{p:is a q:is b p:is c}", NAME, 19);
        tree("by y{p:is a q:is b q:is c}", NAME, 19);
        tree("by y{p:is a q:is b s:is c}", NAME, 19);
        tree("by y{p:by y{p:is a q:is b r:is c} r:is b", NAME, 34);
        tree("by y{p:is a q:is b r:is c}", GOOD, 0);
    }

    private static void range() {
        Check.sentence("I", "3 RANGE: a NUMBER below -1000000 or above 1000000.");
        String[] good = {"1000000", "-1000000", "1000000.0", "-1000000.000", "999999.999", "-999999.999"};
        String[] bad = {"1000000.001", "-1000000.001", "1000001", "-1000001", "9999999.999", "-9999999.999", "1000000.1",
            "2147483", "4294967", "4294967.296", "-4294967.296", "4294967.297"};
        for (String number : good) {
            rows(number + ",p,a;", GOOD, 0);
            row(number + ",p", GOOD, 0);
            tree("by x<=" + number + " is a else is b", GOOD, 0);
        }
        for (String number : bad) {
            rows(number + ",p,a;", RANGE, 0);
            rows("1,p,a;\n" + number, RANGE, 7);
            row(number + ",p", RANGE, 0);
            tree("by x<=" + number + " is a else is b", RANGE, 6);
        }
        Check.due("the greatest", rows("1000000,p,a;", GOOD, 0).row(0, 0, 0), 1000000000);
        Check.due("the least", rows("-1000000,p,a;", GOOD, 0).row(0, 0, 0), -1000000000);
    }

    // ---- room
    private static String eightAttributes() {
        StringBuilder text = new StringBuilder();
        for (int k = 0; k < 8; k++) {
            text.append('a').append(k).append(k % 2 == 0 ? ":measured;" : ":p,q;");
        }
        return text.toString();
    }

    private static void roomForNames() {
        Check.sentence("I", "4 ROOM: the 7th CLASS, 9th ATTRIBUTE, 9th VALUE of one");
        Check.due("six", names("classes a,b,c,d,e,f;x:p,q;", GOOD, 0).count(0), 6);
        names("classes a,b,c,d,e,f,g;x:p,q;", ROOM, 20);
        names("classes a,b,c,d,e,f,g", ROOM, 20);
        String eight = eightAttributes();
        Check.due("eight", names("classes a,b;" + eight, GOOD, 0).count(1), 8);
        names("classes a,b;" + eight + "x:p,q;", ROOM, 12 + eight.length());
        names("classes a,b;" + eight + " x", ROOM, 13 + eight.length());
        Check.due("eight", names("classes a,b;x:a,b,c,d,e,f,g,h;", GOOD, 0).count(10), 8);
        names("classes a,b;x:a,b,c,d,e,f,g,h,i;", ROOM, 30);
        names("classes a,b;x:a,b,c,d,e,f,g,h;y:a,b,c,d,e,f,g,h,i", ROOM, 48);
        names("classes a,b,c,d,e,f;" + eight.replace("p,q", "a,b,c,d,e,f,g,h").replace("measured", "h,g,f,e,d,c,b,a"), GOOD, 0);
    }

    private static GainTrees full(int set, String names, String row) {
        GainTrees x = Check.bench(names, "");
        int most = set == 0 ? 200 : 100;
        Check.due("as many as there is room for", Check.tape(x, row.repeat(most)).rows(set), most);
        return x;
    }

    private static void rowFault(GainTrees x, int set, String text, int kind, int place) {
        int before = x.count(2 + set);
        Check.due("rows(" + set + ")", Check.tape(x, text).rows(set), -1);
        faultIs(x, text, kind, place);
        Check.due("no row comes", x.count(2 + set), before);
    }

    private static void roomForRows() {
        Check.sentence("I", "the first token of a row with which TRAINING would have more than 200, HOLDOUT more than 100");
        String names = "classes a,b;x:p,q;";
        for (int set = 0; set < 2; set++) {
            int most = set == 0 ? 200 : 100;
            GainTrees x = full(set, names, "p,a;");
            rowFault(x, set, "q,b;", ROOM, 0);
            rowFault(x, set, "q", ROOM, 0);
            Check.due("no more rows", Check.tape(x, "").rows(set), most);
            Check.due("the other table has room", Check.tape(x, "q,b;").rows(1 - set), 1);
            x.clear(set);
            rowFault(x, set, "p,a;".repeat(most + 1), ROOM, 4 * most);
            rowFault(x, set, "p,a;".repeat(most) + "p", ROOM, 4 * most);
            rowFault(x, set, "p,a;".repeat(most) + "s", NAME, 4 * most);
            Check.due("one less", Check.tape(x, "p,a;".repeat(most - 1)).rows(set), most - 1);
            rowFault(x, set, "p,a;q,b;", ROOM, 4);
            Check.due("the last one", Check.tape(x, "q,b;").rows(set), most);
            Check.due("it is there", x.row(set, most - 1, 0), 1);
            Check.throwsNoElement("none behind it", () -> x.row(0, 200, 0));
            Check.throwsNoElement("none behind it", () -> x.row(1, 100, 0));
        }
    }

    private static String inside(int forks, int sort) {
        String[] ahead = {"by x<=0 ", "by x<=0 is a else ", "by y{", "by y{p:is a q:is b r:"};
        String[] behind = {"else is b ", "", "q:is b r:is c}", "}"};
        String start = (sort == 2 ? "by y{p:" : ahead[sort]).repeat(forks);
        return start + "@" + behind[sort].repeat(forks);
    }

    private static void roomForForks() {
        Check.sentence("I", "a 'by' that 60 others are around");
        for (int sort = 0; sort < 4; sort++) {
            String text = inside(60, sort);
            int place = text.indexOf('@');
            GainTrees x = tree(text.replace("@", "is a "), GOOD, 0);
            int deepest = 0;
            for (int i = 0; i < x.count(4); i++) {
                deepest = Math.max(deepest, x.node(i, 5));
            }
            Check.due("the deepest node", deepest, 60);
            tree(text.replace("@", "by x<=1 is a else is b "), ROOM, place);
            tree(text.replace("@", "by y{p:is a q:is b r:is c} "), ROOM, place);
            tree(text.replace("@", "by ?"), ROOM, place);
            tree(text.replace("@", "is d"), NAME, place + 3);
            tree(text.replace("@", "else"), SYNTAX, place);
            String less = inside(59, sort);
            tree(less.replace("@", "by x<=1 is a else is b "), GOOD, 0);
        }
        tree("by x<=0 " + inside(59, 1).replace("@", "is a ") + "else " + inside(59, 1).replace("@", "is a "), GOOD, 0);
        tree("by x<=0 " + inside(59, 1).replace("@", "is a ") + "else " + inside(60, 1).replace("@", "is a "), ROOM,
                8 + inside(59, 1).length() + 4 + 5 + 59 * 18);
    }
}
