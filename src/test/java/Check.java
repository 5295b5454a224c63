import java.util.concurrent.Callable;

/** What the tests share: a bench with texts for its tape, and a count of answers that are not due. */
final class Check {
    private static int wrong;
    private static int asked;

    private Check() {
    }

    static int wrong() {
        return wrong;
    }

    static void due(String call, Object got, Object want) {
        asked++;
        if (!want.equals(got)) {
            wrong++;
            System.out.println(call + " answered " + got + ", due is " + want);
        }
    }

    /** What a call answers: a number (a boolean counts 1 or 0), or the name of what it throws. */
    static Object answer(Callable<Object> call) {
        try {
            Object got = call.call();
            if (got instanceof Boolean) {
                return ((Boolean) got) ? 1 : 0;
            }
            return got;
        } catch (Exception e) {
            return e.getClass().getSimpleName();
        }
    }

    static void throwsState(String call, Callable<Object> made) {
        due(call, answer(made), "IllegalStateException");
    }

    static void throwsArgument(String call, Callable<Object> made) {
        due(call, answer(made), "IllegalArgumentException");
    }

    static void throwsNoElement(String call, Callable<Object> made) {
        due(call, answer(made), "NoSuchElementException");
    }

    /** The tape gets this text alone. */
    static GainTrees tape(GainTrees x, String text) {
        x.end(0);
        append(x, text);
        return x;
    }

    static void append(GainTrees x, String text) {
        int before = x.count(7);
        for (int at = 0; at < text.length(); at += 20) {
            int[] word = new int[5];
            for (int i = 0; i < 20; i++) {
                int b = at + i < text.length() ? text.charAt(i + at) : ' ';
                word[i / 4] = word[i / 4] << 8 | b;
            }
            x.feed(word[0], word[1], word[2], word[3], word[4]);
        }
        x.end(before + text.length());
    }

    static GainTrees bench(String names, String rows) {
        GainTrees x = new GainTrees();
        due("names() of " + names, tape(x, names).names() > 0, true);
        if (!rows.isEmpty()) {
            due("rows(0) of " + rows, tape(x, rows).rows(0) > 0, true);
        }
        return x;
    }

    static String result(GainTrees x) {
        StringBuilder text = new StringBuilder();
        for (int i = 0; i < x.count(8); i++) {
            text.append((char) x.letter(i));
        }
        return text.toString();
    }

    static String written(GainTrees x, int what) {
        int told = x.write(what);
        String text = result(x);
        due("length of " + text, told, text.length());
        return text;
    }

    /** Ends the test: with exit code 1 if an answer was not due. */
    static void end(String test) {
        System.out.println(test + ": " + asked + " answers, " + wrong + " not as due");
        if (wrong > 0 || asked == 0) {
            System.exit(1);
        }
    }
}
