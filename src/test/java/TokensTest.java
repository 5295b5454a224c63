/**
 * Term I once more, at each place of some texts: each token goes, has another one put ahead of it or in its stead;
 * bench and model must tell the same fault at the same place.
 */
public final class TokensTest {
    private static final String NAMES = "classes a , b , c ; x : measured ; y : p , q , r ;";
    private static final String[] TEXTS = {
        "classes a , b ; x : measured ; y : p , q ;",
        "classes a , b , c , d , e , f ; x : a , b , c , d , e , f , g , h ;",
        "1 , p , a ; -2.5 , r , c ;",
        "1.125 , q",
        "is c",
        "by x <= -7.5 is a else by x <= 2 is b else is c",
        "by y { p : is a q : by x <= 1 is a else is b r : by y { p : is a q : is b r : is c } }"};
    private static final int[] SORTS = {0, 0, 1, 2, 3, 3, 3};
    private static final String[] TOKENS = {"classes", "measured", "is", "by", "else", "a", "c", "g", "x", "y", "z", "p", "q",
        "r", "i", "abcdefghijkl", "abcdefghijklm", "0", "-1000000", "1000000.001", "12345678", "1.2345", "1.", "-", ",", ":",
        ";", "{", "}", "<=", "<", "=", ".", "?", "A", "\t", "\u00e9"};

    private TokensTest() {
    }

    public static void main(String[] args) {
        for (int t = 0; t < TEXTS.length; t++) {
            String[] tokens = TEXTS[t].split(" ");
            for (int i = 0; i <= tokens.length; i++) {
                for (String token : TOKENS) {
                    reads(SORTS[t], with(tokens, i, token, false));
                    reads(SORTS[t], with(tokens, i, token, true));
                }
                reads(SORTS[t], with(tokens, i, "", true));
            }
        }
        Check.end("TokensTest");
    }

    /** The token comes ahead of the one at that place, or in its stead. */
    private static String with(String[] tokens, int place, String token, boolean instead) {
        StringBuilder text = new StringBuilder();
        for (int i = 0; i <= tokens.length; i++) {
            if (i == place) {
                text.append(token).append(' ');
            }
            if (i < tokens.length && (i != place || !instead)) {
                text.append(tokens[i]).append(' ');
            }
        }
        return text.toString();
    }

    private static void give(GainTrees x, Model model, String text) {
        Check.tape(x, text);
        model.end(0);
        for (int i = 0; i < text.length(); i += 4) {
            int word = 0;
            for (int j = i; j < i + 4; j++) {
                word = word << 8 | (j < text.length() ? text.charAt(j) : ' ');
            }
            model.feed(word);
        }
        model.end(text.length());
    }

    private static void reads(int sort, String text) {
        GainTrees x = new GainTrees();
        Model model = new Model();
        give(x, model, NAMES);
        Check.due("names()", x.names(), model.names());
        give(x, model, sort == 2 ? "is b" : text);
        if (sort == 0) {
            Check.due("names() of " + text, x.names(), model.names());
        } else if (sort == 1) {
            Check.due("rows(0) of " + text, x.rows(0), model.rows(0));
        } else {
            Check.due("tree() of " + text, x.tree(), model.tree());
        }
        if (sort == 2) {
            give(x, model, text);
            Check.due("decide(0) of " + text, x.decide(0), model.decide(0));
        }
        Check.due("fault(0) of " + text, x.fault(0), model.fault(0));
        Check.due("fault(1) of " + text, x.fault(1), model.fault(1));
    }
}
