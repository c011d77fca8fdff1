import java.util.NoSuchElementException;

/** token: POSITION and length of a TOKEN. */
final class Promise5Test {
    public static void main(String[] args) {
        WordChain x = Checks.cut("The rivers of caf\u00e9 \u4e2d");
        int[] positions = {1, 3, 4};
        int[] lengths = {5, 4, 1};
        for (int i = 0; i < 3; i++) {
            Checks.due("POSITION of " + i, x.token(i, 0), positions[i]);
            Checks.due("length of " + i, x.token(i, 1), lengths[i]);
        }
        for (int i : new int[] {-1, 3, 4, 8192, Integer.MIN_VALUE, Integer.MAX_VALUE}) {
            Checks.refused("token(" + i + ", 0)", NoSuchElementException.class, () -> x.token(i, 0));
            Checks.refused("token(" + i + ", 1)", NoSuchElementException.class, () -> x.token(i, 1));
        }
        for (int what : new int[] {-1, 2, 3, Integer.MIN_VALUE, Integer.MAX_VALUE}) {
            Checks.refused("token(0, " + what + ")", IllegalArgumentException.class, () -> x.token(0, what));
            Checks.refused("token(9, " + what + ")", IllegalArgumentException.class, () -> x.token(9, what));
        }
        Checks.due("all is as it was", Checks.tokens(x), "1:river 3:caf\u00e9 4:\u4e2d");
        afterAShorterCut(x);
        Checks.finish();
    }

    private static void afterAShorterCut(WordChain x) {
        Checks.feed(x, Checks.utf8("lake"));
        x.cut();
        Checks.due("length of the new one", x.token(0, 1), 4);
        Checks.refused("an old TOKEN", NoSuchElementException.class, () -> x.token(1, 0));
    }
}
