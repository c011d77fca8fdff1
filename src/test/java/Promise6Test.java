import java.util.NoSuchElementException;

/** character: a CHARACTER of a TOKEN. */
final class Promise6Test {
    private static final int[] FAR = {
        -2, 255, 256, 4096, 8191, 8192, -8192, Integer.MIN_VALUE, Integer.MAX_VALUE};

    public static void main(String[] args) {
        characters();
        noSuchCharacter();
        noSuchToken();
        longest();
        afterAShorterCut();
        Checks.finish();
    }

    private static WordChain sample() {
        return Checks.cut("The RIVERS \u00c9\u0416 don\u2019t \u9fff x");
    }

    private static final String[] WORDS = {"river", "\u00e9\u0436", "don\u2019t", "\u9fff", "x"};

    private static void characters() {
        Checks.about("CHARACTER k (from 0) of TOKEN i");
        WordChain x = sample();
        for (int i = 0; i < WORDS.length; i++) {
            for (int k = 0; k < WORDS[i].length(); k++) {
                Checks.due("character(" + i + ", " + k + ")", x.character(i, k), (int) WORDS[i].charAt(k));
            }
        }
    }

    private static void noSuchCharacter() {
        Checks.about("Not there: java.util.NoSuchElementException: the CHARACTER");
        WordChain x = sample();
        for (int i = 0; i < WORDS.length; i++) {
            refused(x, i, -1);
            refused(x, i, WORDS[i].length());
            refused(x, i, WORDS[i].length() + 1);
            for (int k : FAR) {
                refused(x, i, k);
            }
        }
        Checks.due("all is as it was", Checks.tokens(x), "1:river 2:\u00e9\u0436 3:don\u2019t 4:\u9fff 5:x");
    }

    private static void noSuchToken() {
        Checks.about("Not there: java.util.NoSuchElementException: the TOKEN");
        WordChain x = sample();
        for (int k : new int[] {0, 1, -1, 5}) {
            refused(x, -1, k);
            refused(x, 5, k);
            refused(x, 6, k);
        }
        for (int i : FAR) {
            refused(x, i, 0);
            refused(x, i, i);
        }
        refused(new WordChain(), 0, 0);
        refused(Checks.cut("the"), 0, 0);
        Checks.due("all is as it was", Checks.tokens(x), "1:river 2:\u00e9\u0436 3:don\u2019t 4:\u9fff 5:x");
    }

    private static void longest() {
        Checks.about("CHARACTER k (from 0) of TOKEN i: of one with 255");
        WordChain x = Checks.cut("y " + "1".repeat(254) + "2" + "3");
        Checks.due("the first", x.character(1, 0), (int) '1');
        Checks.due("the 254th", x.character(1, 253), (int) '1');
        Checks.due("the 255th", x.character(1, 254), (int) '2');
        refused(x, 1, 255);
        Checks.due("of the rest", x.character(2, 0), (int) '3');
        refused(x, 2, 1);
        WordChain full = Checks.cut("1".repeat(8191) + "2");
        Checks.due("the last of a full INPUT", full.character(32, 31), (int) '2');
        refused(full, 32, 32);
        refused(full, 33, 0);
    }

    private static void afterAShorterCut() {
        Checks.about("Not there: what an earlier cut had");
        WordChain x = sample();
        Checks.feed(x, Checks.utf8("x"));
        x.cut();
        Checks.due("the new one", x.character(0, 0), (int) 'x');
        refused(x, 0, 1);
        refused(x, 1, 0);
    }

    private static void refused(WordChain x, int i, int k) {
        Checks.refused("character(" + i + ", " + k + ")", NoSuchElementException.class, () -> x.character(i, k));
    }
}
