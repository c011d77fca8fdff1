import java.util.Arrays;

/** count: lengths and numbers of INPUT, TOKENS, WORDS and CHARACTERS. */
final class Promise9Test {
    public static void main(String[] args) {
        WordChain x = new WordChain();
        counts("new", x, 0, 0, 0, 0, 0);
        Checks.feed(x, Checks.utf8("The caf\u00e9 of rivers, \u4e2d!"));
        counts("fed", x, 25, 0, 0, 0, 0);
        x.cut();
        counts("cut", x, 0, 3, 5, 22, 10);
        Checks.feed(x, Checks.utf8("some more"));
        counts("fed again", x, 9, 3, 5, 22, 10);
        x.end(19);
        counts("ended", x, 8, 3, 5, 22, 10);
        Checks.refused("end(20)", IllegalArgumentException.class, () -> x.end(20));
        counts("refused", x, 8, 3, 5, 22, 10);
        x.cut();
        counts("cut again", x, 0, 2, 2, 8, 7);
        Checks.feed(x, Checks.utf8("the __ .. "));
        x.cut();
        counts("nothing stays", x, 0, 0, 1, 10, 0);
        x.cut();
        counts("cut of nothing", x, 0, 0, 0, 0, 0);
        for (int what : new int[] {-1, 5, 6, Integer.MIN_VALUE, Integer.MAX_VALUE}) {
            Checks.due("count(" + what + ")", x.count(what), -1);
        }
        Checks.finish();
    }

    private static void counts(String when, WordChain x, int... wants) {
        int[] got = new int[5];
        for (int what = 0; what < 5; what++) {
            got[what] = x.count(what);
        }
        Checks.due(when, Arrays.toString(got), Arrays.toString(wants));
    }
}
