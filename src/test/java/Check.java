import java.util.concurrent.Callable;

/** What the tests share: a bench with texts for its tape, and a count of answers that are not due. */
final class Check {
    private static int wrong;
    private static int asked;
    private static int sentences;
    private static String sentence = "";

    private Check() {
    }

    static int wrong() {
        return wrong;
    }

    /** Which sentence of the document is tried from here on. */
    static void sentence(String where, String words) {
        sentences++;
        sentence = where + " \"" + words + "\": ";
    }

    static void due(String call, Object got, Object want) {
        asked++;
        if (!want.equals(got)) {
            wrong++;
            System.out.println(sentence + brief(call) + " answered " + brief(got) + ", due is " + brief(want));
        }
    }

    private static String brief(Object told) {
        String text = String.valueOf(told);
        return text.length() > 1000 ? text.substring(0, 1000) + " .." : text;
    }

    /** What a call answers: a number (a boolean counts 1 or 0), or the name of what it throws. */
    static Object answer(Callable<Object> call) {
        try {
            Object got = call.call();
            if (got instanceof Boolean) {
                return ((Boolean) got) ? 1 : 0;
            }
            return got;
        } catch (Exception e) {
            return e.getClass().getSimpleName();
        }
    }

    static void throwsState(String call, Callable<Object> made) {
        due(call, answer(made), "IllegalStateException");
    }

    static void throwsArgument(String call, Callable<Object> made) {
        due(call, answer(made), "IllegalArgumentException");
    }

    static void throwsNoElement(String call, Callable<Object> made) {
        due(call, answer(made), "NoSuchElementException");
    }

    /** The tape gets this text alone. */
    static GainTrees tape(GainTrees x, String text) {
        x.end(0);
        append(x, text);
        return x;
    }

    static void append(GainTrees x, String text) {
        int before = x.count(7);
        for (int at = 0; at < text.length(); at += 20) {
            int[] word = new int[5];
            for (int i = 0; i < 20; i++) {
                int b = at + i < text.length() ? text.charAt(i + at) : ' ';
                word[i / 4] = word[i / 4] << 8 | b;
            }
            x.feed(word[0], word[1], word[2], word[3], word[4]);
        }
        x.end(before + text.length());
    }

    static GainTrees bench(String names, String rows) {
        GainTrees x = new GainTrees();
        due("names() of " + names, tape(x, names).names() > 0, true);
        if (!rows.isEmpty()) {
            due("rows(0) of " + rows, tape(x, rows).rows(0) > 0, true);
        }
        return x;
    }

    static String result(GainTrees x) {
        StringBuilder text = new StringBuilder();
        int bytes = x.count(8);
        for (int i = 0; i < bytes; i++) {
            text.append((char) x.letter(i));
        }
        return text.toString();
    }

    /** All that can be asked of an object without a change to it; the bytes of the tape cannot be. */
    static String state(GainTrees x) {
        StringBuilder all = new StringBuilder();
        for (int what = 0; what < 18; what++) {
            all.append(x.count(what)).append(what < 17 ? " " : "; fault ");
        }
        all.append(x.fault(0)).append(" at ").append(x.fault(1)).append("; result ").append(result(x));
        int attributes = x.count(1);
        for (int set = 0; set < 2; set++) {
            for (int i = 0; i < x.count(2 + set); i++) {
                all.append(i == 0 ? "; rows " : ", ");
                for (int k = 0; k <= attributes; k++) {
                    all.append(x.row(set, i, k)).append(' ');
                }
            }
        }
        return all.append(tree(x)).append(rules(x)).toString();
    }

    private static String tree(GainTrees x) {
        StringBuilder all = new StringBuilder();
        int nodes = x.count(4);
        int classes = x.count(0);
        for (int i = 0; i < nodes; i++) {
            all.append(i == 0 ? "; nodes " : ", ");
            for (int what = 0; what < 6; what++) {
                all.append(x.node(i, what)).append(' ');
            }
            for (int c = 0; c < classes; c++) {
                all.append(x.node(i, 20 + c)).append(' ');
            }
        }
        return all.toString();
    }

    private static String rules(GainTrees x) {
        StringBuilder all = new StringBuilder();
        int rules = x.count(5);
        for (int r = 0; r < rules; r++) {
            all.append(r == 0 ? "; rules " : ", ");
            for (int what = 0; what < 4; what++) {
                all.append(x.rule(r, what)).append(' ');
            }
            for (int i = 0; i < x.rule(r, 1); i++) {
                all.append("if ").append(x.condition(r, i, 0)).append(' ').append(x.condition(r, i, 1)).append(' ')
                        .append(x.condition(r, i, 2)).append(' ');
            }
        }
        return all.toString();
    }

    static String written(GainTrees x, int what) {
        int told = x.write(what);
        String text = result(x);
        due("length of " + text, told, text.length());
        return text;
    }

    /** Ends the test: with exit code 1 if an answer was not due. */
    static void end(String test) {
        String told = sentences == 0 ? ": " : ": " + sentences + " sentences, ";
        System.out.println(test + told + asked + " answers, " + wrong + " not as due");
        if (wrong > 0 || asked == 0) {
            System.exit(1);
        }
    }
}
