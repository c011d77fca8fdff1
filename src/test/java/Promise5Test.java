import java.util.NoSuchElementException;

/** token: POSITION and length of a TOKEN. */
final class Promise5Test {
    public static void main(String[] args) {
        positions();
        lengths();
        noSuchToken();
        anotherWhat();
        badBefore();
        afterAShorterCut();
        Checks.finish();
    }

    private static void dueOfAll(String text, int what, int... wants) {
        WordChain x = Checks.cut(text);
        Checks.due("TOKENS of <" + text + ">", x.count(1), wants.length);
        for (int i = 0; i < wants.length; i++) {
            Checks.due("token(" + i + ", " + what + ") of <" + text + ">", x.token(i, what), wants[i]);
        }
    }

    private static void positions() {
        Checks.about("Of TOKEN i (from 0): its POSITION (what 0)");
        dueOfAll("The rivers of caf\u00e9 \u4e2d", 0, 1, 3, 4);
        dueOfAll("x", 0, 0);
        dueOfAll("x y z", 0, 0, 1, 2);
        dueOfAll("the the x the y the the z the", 0, 2, 4, 7);
        dueOfAll("x _ y __ ' 1", 0, 0, 1, 2);
        dueOfAll("the \u4e2dthe\u6587", 0, 1, 3);
        WordChain last = Checks.cut("a ".repeat(4095) + "xs");
        Checks.due("the one TOKEN of 4096 WORDS", last.count(1), 1);
        Checks.due("its POSITION", last.token(0, 0), 4095);
        Checks.due("its length", last.token(0, 1), 2);
    }

    private static void lengths() {
        Checks.about("how many CHARACTERS it has (1)");
        dueOfAll("The rivers of caf\u00e9 \u4e2d", 1, 5, 4, 1);
        dueOfAll("x " + "1".repeat(255) + " y", 1, 1, 255, 1);
        dueOfAll("\u042f".repeat(255) + " \u042f", 1, 255, 1);
        dueOfAll("Europe's hopping x\u2019s", 1, 5, 3, 1);
    }

    private static void noSuchToken() {
        Checks.about("No such TOKEN: java.util.NoSuchElementException");
        WordChain x = Checks.cut("The rivers of caf\u00e9 \u4e2d");
        for (int i : new int[] {-1, 3, -3, 4, 5, 255, 4096, 8191, 8192, 8193, Integer.MIN_VALUE, Integer.MAX_VALUE}) {
            Checks.refused("token(" + i + ", 0)", NoSuchElementException.class, () -> x.token(i, 0));
            Checks.refused("token(" + i + ", 1)", NoSuchElementException.class, () -> x.token(i, 1));
        }
        Checks.due("the last one is there", x.token(2, 0), 4);
        Checks.due("all is as it was", Checks.tokens(x), "1:river 3:caf\u00e9 4:\u4e2d");
        WordChain full = Checks.cut("x ".repeat(4096));
        Checks.due("the last of the most", full.token(4095, 1), 1);
        Checks.refused("behind it", NoSuchElementException.class, () -> full.token(4096, 1));
        WordChain none = Checks.cut("the");
        Checks.refused("of none", NoSuchElementException.class, () -> none.token(0, 0));
    }

    private static void anotherWhat() {
        Checks.about("another what: bad");
        WordChain x = Checks.cut("The rivers of caf\u00e9 \u4e2d");
        for (int what : new int[] {-1, 2, -2, 3, 4, 256, Integer.MIN_VALUE, Integer.MAX_VALUE}) {
            for (int i = 0; i < 3; i++) {
                int at = i;
                Checks.refused("token(" + i + ", " + what + ")", IllegalArgumentException.class,
                    () -> x.token(at, what));
            }
        }
        Checks.due("all is as it was", Checks.tokens(x), "1:river 3:caf\u00e9 4:\u4e2d");
    }

    private static void badBefore() {
        Checks.about("another what: bad, before");
        WordChain x = Checks.cut("rivers");
        WordChain none = new WordChain();
        for (int what : new int[] {-1, 2, Integer.MIN_VALUE, Integer.MAX_VALUE}) {
            for (int i : new int[] {-1, 1, 8192, Integer.MIN_VALUE, Integer.MAX_VALUE}) {
                Checks.refused("token(" + i + ", " + what + ")", IllegalArgumentException.class,
                    () -> x.token(i, what));
            }
            Checks.refused("token(0, " + what + ") of none", IllegalArgumentException.class,
                () -> none.token(0, what));
        }
        Checks.due("all is as it was", Checks.tokens(x), "0:river");
    }

    private static void afterAShorterCut() {
        Checks.about("No such TOKEN: one of an earlier cut");
        WordChain x = Checks.cut("rivers and hills");
        Checks.feed(x, Checks.utf8("lake"));
        x.cut();
        Checks.due("length of the new one", x.token(0, 1), 4);
        Checks.refused("an old TOKEN", NoSuchElementException.class, () -> x.token(1, 0));
        Checks.refused("an old TOKEN", NoSuchElementException.class, () -> x.token(1, 1));
    }
}
