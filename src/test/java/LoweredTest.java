/** Point (2): LOWERED. */
final class LoweredTest {
    public static void main(String[] args) {
        latin();
        latinWithMarks();
        greek();
        cyrillic();
        othersStay();
        eachLetter();
        Checks.finish();
    }

    private static void latin() {
        Checks.about("(2) A .. Z become 32 more");
        Checks.dueTokens("ABYZ_ abyz_ AzaZ_", "0:abyz_ 1:abyz_ 2:azaz_");
        Checks.dueTokens("ABCDEFGHIJKLMNOPQRSTUVWXYZ_", "0:abcdefghijklmnopqrstuvwxyz_");
    }

    private static void latinWithMarks() {
        Checks.about("(2) U+00C0 .. U+00DE without U+00D7 become 32 more");
        Checks.dueTokens("\u00c0\u00c1\u00d6\u00d8\u00dd\u00de", "0:\u00e0\u00e1\u00f6\u00f8\u00fd\u00fe");
        Checks.dueTokens("\u00df\u00e0\u00f6\u00f8\u00fe\u00ff\u0100", "0:\u00df\u00e0\u00f6\u00f8\u00fe\u00ff\u0100");
        Checks.dueTokens("x\u00d7y", "0:x 1:y");
    }

    private static void greek() {
        Checks.about("(2) U+0391 .. U+03AB without U+03A2 become 32 more");
        Checks.dueTokens("\u0391\u0392\u03a1\u03a3\u03aa\u03ab", "0:\u03b1\u03b2\u03c1\u03c3\u03ca\u03cb");
        Checks.dueTokens("\u03a2\u03ac\u03b1\u03c2\u03cf\u03ff", "0:\u03a2\u03ac\u03b1\u03c2\u03cf\u03ff");
        Checks.dueTokens("x\u0390y", "0:x 1:y");
    }

    private static void cyrillic() {
        Checks.about("(2) U+0410 .. U+042F become 32 more, U+0400 .. U+040F 80 more");
        Checks.dueTokens("\u0400\u0401\u040e\u040f", "0:\u0450\u0451\u045e\u045f");
        Checks.dueTokens("\u0410\u0411\u042e\u042f", "0:\u0430\u0431\u044e\u044f");
        Checks.dueTokens("\u0430\u044f\u0450\u045f\u0460\u04ff", "0:\u0430\u044f\u0450\u045f\u0460\u04ff");
    }

    private static void othersStay() {
        Checks.about("(2) these become more: no other CHARACTER does");
        Checks.dueTokens("0123456789_x.y'z\u2019v\u00b7w", "0:0123456789_x.y'z\u2019v\u00b7w");
        Checks.dueTokens("1,2;3 \u4e00 \u9fff", "0:1,2;3 1:\u4e00 2:\u9fff");
        Checks.dueTokens("\u0130\u0178\u0186\u0243\u03f4\u03ff\u0460\u04c0\u04fe",
            "0:\u0130\u0178\u0186\u0243\u03f4\u03ff\u0460\u04c0\u04fe");
    }

    private static void eachLetter() {
        Checks.about("(2) LOWERED: each LETTER");
        WordChain sorts = new WordChain();
        for (int c = 'B'; c <= 0x500; c++) {
            if (c % 500 == 0) {
                sorts = new WordChain();
            }
            if (sorts.sort(c) == 1 && c != 'a') {
                WordChain x = Checks.cut(Character.toString(c));
                Checks.due("LOWERED " + Integer.toHexString(c), x.character(0, 0), lowered(c));
                Checks.due("length of " + Integer.toHexString(c), x.count(4), 1);
            }
        }
    }

    /** In these blocks the letters that Java's library lowers by 32 or 80 are those of the document. */
    private static int lowered(int c) {
        boolean isInBlock = c <= 0xDE || c >= 0x391 && c <= 0x3AB || c >= 0x400 && c <= 0x42F;
        return isInBlock ? Character.toLowerCase(c) : c;
    }
}
