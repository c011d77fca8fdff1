import java.util.HexFormat;

/** cut: CHARACTERS out of bytes. */
final class Utf8Test {
    public static void main(String[] args) {
        wellFormed();
        illFormed();
        illFormedInWords();
        Checks.finish();
    }

    private static void wellFormed() {
        int[] edges = {
            0, 0x7F, 0x80, 0x7FF, 0x800, 0xFFF, 0x1000, 0xCFFF, 0xD7FF, 0xE000, 0xFFFD, 0xFFFE, 0xFFFF,
            0x10000, 0x3FFFF, 0x40000, 0xFFFFF, 0x100000, 0x10FFFF};
        for (int c : edges) {
            characters(Checks.utf8(Character.toString(c)), 1);
        }
        Checks.dueTokens("x\ud83d\ude00y", "0:x 1:y");
    }

    private static void illFormed() {
        characters(Checks.bytes(0x80), 1);
        characters(Checks.bytes(0xBF, 0xBF), 2);
        characters(Checks.bytes(0xC0, 0x80), 2);
        characters(Checks.bytes(0xC1, 0xBF), 2);
        characters(Checks.bytes(0xC2, 0x80), 1);
        characters(Checks.bytes(0xC2, 0x7F), 2);
        characters(Checks.bytes(0xC2, 0xC0), 2);
        characters(Checks.bytes(0xC2), 1);
        characters(Checks.bytes(0xDF, 0xBF), 1);
        characters(Checks.bytes(0xE0, 0x9F, 0xBF), 3);
        characters(Checks.bytes(0xE0, 0xA0, 0x80), 1);
        characters(Checks.bytes(0xE1, 0x80), 2);
        characters(Checks.bytes(0xE1, 0x80, 0x7F), 3);
        characters(Checks.bytes(0xE1, 0x80, 0xC0), 3);
        characters(Checks.bytes(0xED, 0x9F, 0xBF), 1);
        characters(Checks.bytes(0xED, 0xA0, 0x80), 3);
        characters(Checks.bytes(0xED, 0xBF, 0xBF), 3);
        characters(Checks.bytes(0xF0, 0x8F, 0xBF, 0xBF), 4);
        characters(Checks.bytes(0xF0, 0x90, 0x80, 0x80), 1);
        characters(Checks.bytes(0xF0, 0x90, 0x80), 3);
        characters(Checks.bytes(0xF0, 0x90, 0x80, 0x7F), 4);
        characters(Checks.bytes(0xF4, 0x8F, 0xBF, 0xBF), 1);
        characters(Checks.bytes(0xF4, 0x90, 0x80, 0x80), 4);
        characters(Checks.bytes(0xF5, 0x80, 0x80, 0x80), 4);
        characters(Checks.bytes(0xFE, 0xFF), 2);
        characters(Checks.bytes(0xF0, 0x90, 0xC3, 0xA9), 3);
        characters(Checks.bytes(0xE1, 0xE1, 0x80, 0x80), 2);
    }

    private static void illFormedInWords() {
        WordChain x = Checks.cut(Checks.bytes('x', 0xC3, 'y', 0xC3, 0xA9, 0xE4, 0xB8, 'z'));
        Checks.due("ill-formed ones end a WORD", Checks.tokens(x), "0:x 1:y\u00e9 2:z");
        Checks.due("CHARACTERS", x.count(3), 7);
    }

    /** Behind old bytes too: what went with end, or with a cut, must not be looked at. */
    private static void characters(byte[] bytes, int want) {
        WordChain x = new WordChain();
        Checks.feed(x, Checks.bytes(0x80, 0x80, 0x80, 0x80, 0x80, 0x80, 0x80, 0x80));
        x.cut();
        x.feed(0x80808080, 0x80808080, 0x80808080, 0x80808080, 0x80808080);
        x.end(0);
        for (byte b : bytes) {
            x.feed((b & 0xFF) << 24 | 0x808080, 0x80808080, 0x80808080, 0x80808080, 0x80808080);
            x.end(1);
        }
        x.cut();
        Checks.due("CHARACTERS of " + HexFormat.of().formatHex(bytes), x.count(3), want);
    }
}
