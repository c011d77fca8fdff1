/** What belongs together, and what of it is a WORD. */
final class TogetherTest {
    private static final String SIGNS = "x1_\u00b7,'\u4e2d ";

    public static void main(String[] args) {
        pairs();
        aroundLetters();
        aroundDigits();
        notAroundOthers();
        asFarAsItGoes();
        aLetterOrADigit();
        ideographs();
        everyCharacter();
        allRowsOfFive();
        Checks.finish();
    }

    private static void pairs() {
        Checks.about("Two CHARACTERS that follow each other belong together if both are LETTERS, DIGITS or JOINERS");
        Checks.dueTokens("xy x1 x_ 1x 12 1_ _x _1", "0:xy 1:x1 2:x_ 3:1x 4:12 5:1_ 6:_x 7:_1");
        Checks.dueTokens("x__y 1__2 __x__ x_1_y", "0:x__y 1:1__2 2:__x__ 3:x_1_y");
        Checks.dueTokens("zx\u00e9\u03b1\u0439\u024f\u04ff9", "0:zx\u00e9\u03b1\u0439\u024f\u04ff9");
        Checks.dueTokens("x-y x y x/y x\ny x:y 1-2 _-x", "0:x 1:y 2:x 3:y 4:x 5:y 6:x 7:y 8:x 9:y 10:1 11:2 12:x");
        Checks.dueTokens("x\u00d7y x\u00f7y x@y", "0:x 1:y 2:x 3:y 4:x 5:y");
        Checks.dueTokens("x\u0250y x\u0390y x\u0500y x\u00bfy", "0:x 1:y 2:x 3:y 4:x 5:y 6:x 7:y");
    }

    private static void aroundLetters() {
        Checks.about("So do three, the outer ones being LETTERS, the middle one \"between LETTERS\" or \"between both\"");
        Checks.dueTokens("x\u00b7y x'y x.y x\u2019y", "0:x\u00b7y 1:x'y 2:x.y 3:x\u2019y");
        Checks.dueTokens("\u00c0\u00b7\u04ff z.\u03b1 \u0439'z", "0:\u00e0\u00b7\u04ff 1:z.\u03b1 2:\u0439'z");
        Checks.dueTokens("x,y x;y", "0:x 1:y 2:x 3:y");
        Checks.dueTokens("x\u2018y x\u201ay x\u00b6y x\u00b8y x&y x(y x-y x/y",
            "0:x 1:y 2:x 3:y 4:x 5:y 6:x 7:y 8:x 9:y 10:x 11:y 12:x 13:y 14:x 15:y");
    }

    private static void aroundDigits() {
        Checks.about("or the outer ones being DIGITS, the middle one \"between DIGITS\" or \"between both\"");
        Checks.dueTokens("1,2 1;2 1'2 1.2 1\u20192 0,9", "0:1,2 1:1;2 2:1'2 3:1.2 4:1\u20192 5:0,9");
        Checks.dueTokens("1\u00b72", "0:1 1:2");
        Checks.dueTokens("1:2 1<2 1+2 1-2", "0:1 1:2 2:1 3:2 4:1 5:2 6:1 7:2");
    }

    private static void notAroundOthers() {
        Checks.about("So do three: no other three do");
        Checks.dueTokens("x.1 1.x x'1 1'x x\u20191 1\u2019x", "0:x 1:1 2:1 3:x 4:x 5:1 6:1 7:x 8:x 9:1 10:1 11:x");
        Checks.dueTokens("x,1 1,x x\u00b71 1\u00b7x", "0:x 1:1 2:1 3:x 4:x 5:1 6:1 7:x");
        Checks.dueTokens("x_.y x._y _._ 1_,2 1,_2", "0:x_ 1:y 2:x 3:_y 4:1_ 5:2 6:1 7:_2");
        Checks.dueTokens("x..y 1,,2 x.'y 1.,2 x\u00b7\u00b7y", "0:x 1:y 2:1 3:2 4:x 5:y 6:1 7:2 8:x 9:y");
        Checks.dueTokens(".x. 'y' ,1, \u2019z\u2019 \u00b7z\u00b7", "0:x 1:y 2:1 3:z 4:z");
        Checks.dueTokens("x. y x .y 1, 2", "0:x 1:y 2:x 3:y 4:1 5:2");
        Checks.dueTokens("x.", "0:x");
        Checks.dueTokens(".x", "0:x");
        Checks.dueTokens("1,", "0:1");
        Checks.dueTokens("x'", "0:x");
    }

    private static void asFarAsItGoes() {
        Checks.about("All that belongs together, as far as it goes, is a WORD");
        Checks.dueTokens("x.y.z 1.2,3;4 x.y1.2 x1,2y", "0:x.y.z 1:1.2,3;4 2:x.y1.2 3:x1,2y");
        Checks.dueTokens("x.y._z x'y\u00b7z\u2019v", "0:x.y 1:_z 2:x'y\u00b7z\u2019v");
        Checks.dueTokens("x.y..z.v 1.2.x.y", "0:x.y 1:z.v 2:1.2 3:x.y");
        Checks.dueTokens("_x.y_ 1_2,3_4", "0:_x.y_ 1:1_2,3_4");
        Checks.dueTokens("x.".repeat(100) + "x", "0:" + "x.".repeat(100) + "x");
    }

    private static void aLetterOrADigit() {
        Checks.about("is a WORD if it has a LETTER or a DIGIT");
        Checks.dueTokens("_ __ ___ x", "0:x");
        Checks.dueTokens("_x x_ _1 1_ ___z ___9", "0:_x 1:x_ 2:_1 3:1_ 4:___z 5:___9");
        Checks.dueTokens("' . , ; \u00b7 \u2019 - \ufffd", "");
        Checks.due("WORDS", Checks.cut("_ __ _._ ' , \u00b7").count(2), 0);
        Checks.due("many JOINERS", Checks.cut("_".repeat(8192)).count(2), 0);
        Checks.due("many JOINERS and a LETTER", Checks.cut("_".repeat(8191) + "x").count(2), 33);
    }

    private static void ideographs() {
        Checks.about("An IDEOGRAPH is a WORD by itself");
        Checks.dueTokens("\u4e2d\u6587", "0:\u4e2d 1:\u6587");
        Checks.dueTokens("x\u4e2dy 1\u4e2d2 _\u4e2d_", "0:x 1:\u4e2d 2:y 3:1 4:\u4e2d 5:2 6:\u4e2d");
        Checks.dueTokens("\u4e2d.\u4e2d \u4e2d'x \u4e2d's \u4e2d,1", "0:\u4e2d 1:\u4e2d 2:\u4e2d 3:x 4:\u4e2d 5:s 6:\u4e2d 7:1");
        Checks.dueTokens("\u4dff\u4e00\u9fff\ua000", "0:\u4e00 1:\u9fff");
        Checks.dueTokens("the\u4e2dthe", "1:\u4e2d");
        Checks.due("more than 255", Checks.counts(Checks.cut("\u4e2d".repeat(300))), "0 300 300 300 300");
    }

    /** Between an x and a y it ends a WORD, goes on with it or is one, as its sort says. */
    private static void everyCharacter() {
        Checks.about("LETTERS, DIGITS, JOINERS, what stands between, IDEOGRAPHS: in a text, too");
        WordChain sorts = new WordChain();
        for (int c = 0; c < 0x3000; c++) {
            if (c % 500 == 0) {
                sorts = new WordChain();
            }
            int sort = sorts.sort(c);
            boolean isOne = sort == 1 || sort == 2 || sort == 3 || sort == 4 || sort == 6;
            WordChain x = Checks.cut("x" + Character.toString(c) + "y");
            Checks.due("WORDS with " + Integer.toHexString(c), x.count(2), isOne ? 1 : 2);
            Checks.due("CHARACTERS with " + Integer.toHexString(c), x.count(4), isOne ? 3 : 2);
        }
    }

    private static void allRowsOfFive() {
        Checks.about("All that belongs together, as far as it goes: all rows of five CHARACTERS");
        for (int number = 0; number < 8 * 8 * 8 * 8 * 8; number++) {
            StringBuilder text = new StringBuilder();
            for (int rest = number, k = 0; k < 5; k++, rest /= 8) {
                text.append(SIGNS.charAt(rest % 8));
            }
            Checks.dueTokens(text.toString(), expected(text.toString()));
        }
    }

    /** By the document's words: which neighbours belong together, then what hangs together. */
    private static String expected(String text) {
        boolean[] withNext = new boolean[text.length()];
        for (int at = 0; at + 1 < text.length(); at++) {
            withNext[at] |= isAny(text, at, "x1_") && isAny(text, at + 1, "x1_");
            boolean three = isAny(text, at, "x") && isAny(text, at + 1, "\u00b7'") && isAny(text, at + 2, "x")
                || isAny(text, at, "1") && isAny(text, at + 1, ",'") && isAny(text, at + 2, "1");
            withNext[at] |= three;
            withNext[at + 1] |= three;
        }
        StringBuilder all = new StringBuilder();
        int position = 0;
        int from = 0;
        for (int at = 0; at < text.length(); at++) {
            if (!withNext[at]) {
                String part = text.substring(from, at + 1);
                if (part.matches(".*[x1\u4e2d].*")) {
                    all.append(position == 0 ? "" : " ").append(position).append(':').append(part);
                    position++;
                }
                from = at + 1;
            }
        }
        return all.toString();
    }

    private static boolean isAny(String text, int at, String signs) {
        return at < text.length() && signs.indexOf(text.charAt(at)) >= 0;
    }
}
