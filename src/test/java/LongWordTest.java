/** A WORD of more than 255 CHARACTERS is cut into WORDS of 255 and a rest. */
final class LongWordTest {
    public static void main(String[] args) {
        howMany();
        inCharacters();
        whateverIsInThem();
        cutFirstOfAll();
        fromItsBeginning();
        eachIsAWord();
        Checks.finish();
    }

    private static void howMany() {
        Checks.about("A WORD of more than 255 CHARACTERS is cut, from its beginning, into WORDS of 255 and a rest");
        for (int length = 1; length <= 1030; length++) {
            WordChain x = Checks.cut("1".repeat(length));
            int due = (length + 254) / 255;
            Checks.due("WORDS of " + length, x.count(2), due);
            Checks.due("CHARACTERS of TOKENS of " + length, x.count(4), length);
            Checks.due("length of the last of " + length, x.token(due - 1, 1), length - 255 * (due - 1));
        }
        pieces("1".repeat(254), 254);
        pieces("1".repeat(255), 255);
        pieces("1".repeat(256), 255, 1);
        pieces("1".repeat(509), 255, 254);
        pieces("1".repeat(510), 255, 255);
        pieces("1".repeat(511), 255, 255, 1);
        pieces("1".repeat(765), 255, 255, 255);
        WordChain full = Checks.cut("1".repeat(8192));
        Checks.due("counts of a full one", Checks.counts(full), "0 33 33 8192 8192");
        Checks.due("the last but one", full.token(31, 1), 255);
        Checks.due("the rest", full.token(32, 1), 32);
    }

    private static void inCharacters() {
        Checks.about("A WORD of more than 255 CHARACTERS: not bytes");
        pieces("\u00e9".repeat(255), 255);
        pieces("\u00e9".repeat(256), 255, 1);
        pieces("\u0439".repeat(254) + "x", 255);
        pieces("x\u2019".repeat(127) + "x", 255);
        pieces("x\u2019".repeat(127) + "xx", 255, 1);
    }

    private static void whateverIsInThem() {
        Checks.about("(which are WORDS whatever is in them)");
        pieces("1".repeat(255) + "_", 255, 1);
        pieces("_".repeat(255) + "1", 255, 1);
        pieces("_".repeat(254) + "1", 255);
        pieces("1" + "_".repeat(600), 255, 255, 91);
        pieces("_".repeat(600) + "1", 255, 255, 91);
        Checks.due("JOINERS alone", Checks.cut("_".repeat(256)).count(2), 0);
        Checks.due("the first TOKEN", Checks.word(Checks.cut("_".repeat(255) + "1"), 0), "_".repeat(255));
        pieces("1".repeat(254) + ",1", 255, 1);
        Checks.due("ends with what stands between",
            Checks.word(Checks.cut("1".repeat(254) + ",1"), 0), "1".repeat(254) + ",");
        Checks.due("begins with what stands between",
            Checks.word(Checks.cut("1".repeat(255) + ",1"), 1), ",1");
        Checks.due("begins with a mark", Checks.word(Checks.cut("x".repeat(255) + ".y"), 1), ".y");
        pieces("x\u00b7".repeat(200) + "x", 255, 146);
    }

    private static void cutFirstOfAll() {
        Checks.about("Each WORD: (1) to (4) are for the pieces, not for the whole");
        pieces("1" + "x".repeat(252) + "'s", 253);
        pieces("1" + "x".repeat(252) + "'s" + "y", 253, 1);
        pieces("1" + "x".repeat(253) + "'s", 255, 1);
        pieces("1" + "x".repeat(254) + "'s", 255, 2);
        pieces("1" + "x".repeat(254) + "y's", 255, 1);
        pieces("1" + "x".repeat(254) + "yy\u2019S", 255, 2);
        Checks.due("a piece alone is lowered", Checks.word(Checks.cut("X".repeat(255) + "YZ"), 1), "yz");
        WordChain the = Checks.cut("x".repeat(255) + "the x");
        Checks.due("a rest that says nothing", Checks.counts(the), "0 2 3 260 256");
        Checks.due("its POSITION stays", the.token(1, 0), 2);
        Checks.due("a rest is stemmed", Checks.word(Checks.cut("1".repeat(255) + "hopping"), 1), "hop");
        Checks.due("a rest of two isn't", Checks.word(Checks.cut("1".repeat(255) + "us"), 1), "us");
        String stemmed = Checks.word(Checks.cut("x".repeat(248) + "hopping" + "hopping"), 0);
        Checks.due("a piece of 255 is stemmed", stemmed, "x".repeat(248) + "hop");
        Checks.due("an ending over the edge isn't one",
            Checks.word(Checks.cut("x".repeat(250) + "hopping"), 0), "x".repeat(250) + "hoppi");
        Checks.due("255 letters with an e more",
            Checks.word(Checks.cut("x".repeat(249) + "hoping"), 0), "x".repeat(249) + "hope");
    }

    private static void fromItsBeginning() {
        Checks.about("is cut, from its beginning");
        WordChain x = Checks.cut("1".repeat(254) + "2" + "3".repeat(254) + "4" + "56");
        Checks.due("first piece", Checks.word(x, 0), "1".repeat(254) + "2");
        x = Checks.cut("1".repeat(254) + "2" + "3".repeat(254) + "4" + "56");
        Checks.due("second piece", Checks.word(x, 1), "3".repeat(254) + "4");
        Checks.due("rest", Checks.word(x, 2), "56");
        x = Checks.cut("y " + "1".repeat(254) + "2" + "34");
        Checks.due("behind another WORD", Checks.word(x, 2), "34");
    }

    private static void eachIsAWord() {
        Checks.about("The WORDS of a text have the POSITIONS 0, 1, 2 ..");
        WordChain x = Checks.cut("y " + "1".repeat(600) + " the z");
        int[] positions = {0, 1, 2, 3, 5};
        for (int i = 0; i < positions.length; i++) {
            Checks.due("POSITION of " + i, x.token(i, 0), positions[i]);
        }
        Checks.due("WORDS", x.count(2), 6);
    }

    private static void pieces(String text, int... lengths) {
        WordChain x = Checks.cut(text);
        String name = text.length() + " from " + text.substring(0, 2) + " to " + text.substring(text.length() - 2);
        Checks.due("pieces of " + name, x.count(1), lengths.length);
        for (int i = 0; i < lengths.length && i < x.count(1); i++) {
            Checks.due("length of piece " + i + " of " + name, x.token(i, 1), lengths[i]);
            Checks.due("POSITION of piece " + i + " of " + name, x.token(i, 0), i);
        }
    }
}
