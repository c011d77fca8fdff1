import java.util.NoSuchElementException;

/** first: the first TOKEN that has the same CHARACTERS. */
final class Promise7Test {
    public static void main(String[] args) {
        same();
        notTheSame();
        longOnes();
        many();
        notThere();
        afterAShorterCut();
        Checks.finish();
    }

    private static void same() {
        Checks.about("The number (from 0) of the first TOKEN that has the same CHARACTERS as TOKEN i");
        firsts("x", 0);
        firsts("x x x", 0, 0, 0);
        firsts("y x x x y", 0, 1, 1, 1, 0);
        firsts("river the Rivers lake river's LAKE riv rivers", 0, 0, 2, 0, 2, 5, 0);
        firsts("the x the x", 0, 0);
        firsts("\u4e2d\u6587\u4e2d \u00c9 \u00e9 e", 0, 1, 0, 3, 3, 5);
        firsts("hopping hops hoped hop hope", 0, 0, 2, 0, 2);
    }

    private static void notTheSame() {
        Checks.about("the first TOKEN that has the same CHARACTERS: all of them, and no more");
        firsts("ab ba abc bca ab ba", 0, 1, 2, 3, 0, 1);
        firsts("x xx xxx xx x", 0, 1, 2, 1, 0);
        firsts("xxx xx x xx xxx", 0, 1, 2, 1, 0);
        firsts("1x 2x 1y 2y 1x", 0, 1, 2, 3, 0);
        firsts("1xx 1yx 1xy 1xx", 0, 1, 2, 0);
        firsts("1 _1 1_ __1 1", 0, 1, 2, 3, 0);
        firsts("b \u0162 \u0462 \u4e62 b \u4e62", 0, 1, 2, 3, 0, 3);
        firsts("x'y x\u2019y x.y x\u00b7y x\u2019y", 0, 1, 2, 3, 1);
    }

    private static void longOnes() {
        Checks.about("the first TOKEN that has the same CHARACTERS: to the 255th");
        String ones = "1".repeat(254);
        firsts(ones + "1" + ones + "1" + "1 1", 0, 0, 2, 2);
        firsts(ones + "1 " + ones + "2 " + ones + " " + ones + "2", 0, 1, 2, 1);
        firsts("2" + ones + " 1" + ones + " 2" + ones, 0, 1, 0);
    }

    private static void many() {
        Checks.about("The number (from 0) of the first TOKEN: of the most that there can be");
        WordChain one = Checks.cut("x ".repeat(4095) + "y");
        Checks.due("the last, alone of its kind", one.first(4095), 4095);
        Checks.due("the one before", one.first(4094), 0);
        WordChain other = Checks.cut("x ".repeat(4094) + "y y");
        Checks.due("the last two", other.first(4095), 4094);
        Checks.due("the last but one", other.first(4094), 4094);
    }

    private static void notThere() {
        Checks.about("Not there: java.util.NoSuchElementException: first");
        WordChain x = Checks.cut("one two");
        for (int i : new int[] {-1, 2, 3, -2, 4096, 8192, Integer.MIN_VALUE, Integer.MAX_VALUE}) {
            Checks.refused("first(" + i + ")", NoSuchElementException.class, () -> x.first(i));
        }
        Checks.due("the last one is there", x.first(1), 1);
        Checks.due("all is as it was", Checks.tokens(x), "0:on 1:two");
        WordChain none = Checks.cut("the");
        Checks.refused("first(0) of none", NoSuchElementException.class, () -> none.first(0));
        WordChain full = Checks.cut("x ".repeat(4096));
        Checks.refused("behind the most", NoSuchElementException.class, () -> full.first(4096));
    }

    private static void afterAShorterCut() {
        Checks.about("The number of the first TOKEN: none of an earlier cut");
        WordChain x = Checks.cut("one two");
        Checks.feed(x, Checks.utf8("six two"));
        x.cut();
        Checks.due("first of the new ones", x.first(0), 0);
        Checks.due("first of the new ones", x.first(1), 1);
        Checks.feed(x, Checks.utf8("two"));
        x.cut();
        Checks.due("first of a new cut", x.first(0), 0);
        Checks.refused("first of an old TOKEN", NoSuchElementException.class, () -> x.first(1));
    }

    private static void firsts(String text, int... wants) {
        WordChain x = Checks.cut(text);
        Checks.due("TOKENS of " + text, x.count(1), wants.length);
        for (int i = 0; i < wants.length; i++) {
            Checks.due("first(" + i + ") of " + text, x.first(i), wants[i]);
        }
    }
}
