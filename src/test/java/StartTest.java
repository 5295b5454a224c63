/** Promise 1: a new object. */
public final class StartTest {
    private StartTest() {
    }

    public static void main(String[] args) {
        GainTrees x = new GainTrees();
        for (int what = 0; what <= 5; what++) {
            Check.due("count " + what, x.count(what), 0);
        }
        Check.due("count 6", x.count(6), GainTrees.NONE);
        Check.end("StartTest");
    }
}
