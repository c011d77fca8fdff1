import java.util.NoSuchElementException;

/** character: a CHARACTER of a TOKEN. */
final class Promise6Test {
    public static void main(String[] args) {
        WordChain x = Checks.cut("The RIVERS \u00c9\u0416 don\u2019t");
        String[] words = {"river", "\u00e9\u0436", "don\u2019t"};
        for (int i = 0; i < words.length; i++) {
            checkWord(x, i, words[i]);
        }
        for (int i : new int[] {-1, 3, 8192, Integer.MIN_VALUE, Integer.MAX_VALUE}) {
            Checks.refused("character(" + i + ", 0)", NoSuchElementException.class, () -> x.character(i, 0));
        }
        Checks.feed(x, Checks.utf8("x"));
        x.cut();
        Checks.due("the new one", x.character(0, 0), (int) 'x');
        Checks.refused("of an old word", NoSuchElementException.class, () -> x.character(0, 1));
        Checks.refused("of an old TOKEN", NoSuchElementException.class, () -> x.character(1, 0));
        Checks.finish();
    }

    private static void checkWord(WordChain x, int i, String word) {
        for (int k = 0; k < word.length(); k++) {
            Checks.due("character(" + i + ", " + k + ")", x.character(i, k), (int) word.charAt(k));
        }
        for (int k : new int[] {-1, word.length(), 255, Integer.MIN_VALUE, Integer.MAX_VALUE}) {
            Checks.refused("character(" + i + ", " + k + ")", NoSuchElementException.class,
                () -> x.character(i, k));
        }
    }
}
