import java.util.NoSuchElementException;

/** first: the first TOKEN that has the same CHARACTERS. */
final class Promise7Test {
    public static void main(String[] args) {
        firsts("river the Rivers lake river's LAKE riv rivers", 0, 0, 2, 0, 2, 5, 0);
        firsts("ab ba abc bca ab ba", 0, 1, 2, 3, 0, 1);
        firsts("x y x1 x x1", 0, 1, 2, 0, 2);
        firsts("\u4e2d\u6587\u4e2d \u00c9 \u00e9 e", 0, 1, 0, 3, 3, 5);
        String x255 = "1".repeat(255);
        firsts(x255 + x255 + "1 1", 0, 0, 2, 2);
        WordChain x = Checks.cut("one two");
        for (int i : new int[] {-1, 2, 8192, Integer.MIN_VALUE, Integer.MAX_VALUE}) {
            Checks.refused("first(" + i + ")", NoSuchElementException.class, () -> x.first(i));
        }
        Checks.feed(x, Checks.utf8("two"));
        x.cut();
        Checks.due("first of a new cut", x.first(0), 0);
        Checks.refused("first of an old TOKEN", NoSuchElementException.class, () -> x.first(1));
        Checks.finish();
    }

    private static void firsts(String text, int... wants) {
        WordChain x = Checks.cut(text);
        Checks.due("TOKENS of " + text, x.count(1), wants.length);
        for (int i = 0; i < wants.length; i++) {
            Checks.due("first(" + i + ") of " + text, x.first(i), wants[i]);
        }
    }
}
