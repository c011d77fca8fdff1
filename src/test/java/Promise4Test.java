/** cut: WORDS, their endings and their TOKENS. */
final class Promise4Test {
    public static void main(String[] args) {
        replaces();
        joining();
        between();
        ideographs();
        owners();
        lowering();
        silentWords();
        longWords();
        Checks.finish();
    }

    private static void replaces() {
        WordChain x = Checks.cut("one two three");
        Checks.due("INPUT is empty then", x.count(0), 0);
        Checks.feed(x, Checks.utf8("four"));
        Checks.due("one TOKEN", x.cut(), 1);
        Checks.due("TOKENS take the place", Checks.tokens(x), "0:four");
        Checks.due("cut of nothing", x.cut(), 0);
        Checks.due("no TOKENS", Checks.tokens(x), "");
        Checks.due("no WORDS", x.count(2), 0);
        Checks.due("no CHARACTERS", x.count(3), 0);
    }

    private static void joining() {
        Checks.dueTokens("a1_b2 _x_ 12ab", "0:a1_b2 1:_x_ 2:12ab");
        Checks.dueTokens("_ __ ___ x", "0:x");
        Checks.dueTokens("_1 2_", "0:_1 1:2_");
        Checks.dueTokens("wi-fi x+y x@y", "0:wi 1:fi 2:x 3:y 4:x 5:y");
        Checks.dueTokens("\u0439x\u00e9\u03b1z", "0:\u0439x\u00e9\u03b1z");
    }

    private static void between() {
        Checks.dueTokens("x.y 1.2 x.1 1.x", "0:x.y 1:1.2 2:x 3:1 4:1 5:x");
        Checks.dueTokens("x'y 1'2 x'1 1'x", "0:x'y 1:1'2 2:x 3:1 4:1 5:x");
        Checks.dueTokens("x\u2019y 1\u20192 x\u20191", "0:x\u2019y 1:1\u20192 2:x 3:1");
        Checks.dueTokens("x\u00b7y 1\u00b72 x\u00b71", "0:x\u00b7y 1:1 2:2 3:x 4:1");
        Checks.dueTokens("x,y 1,2 x,1 x;y 1;2", "0:x 1:y 2:1,2 3:x 4:1 5:x 6:y 7:1;2");
        Checks.dueTokens("x..y 1,,2 x.'y", "0:x 1:y 2:1 3:2 4:x 5:y");
        Checks.dueTokens(".x. 'y' ,1,", "0:x 1:y 2:1");
        Checks.dueTokens("x_.y x._y _._ 1_,2", "0:x_ 1:y 2:x 3:_y 4:1_ 5:2");
        Checks.dueTokens("x.y.z 1.2,3;4 x.y1.2", "0:x.y.z 1:1.2,3;4 2:x.y1.2");
        Checks.dueTokens("x.", "0:x");
        Checks.dueTokens("'", "");
    }

    private static void ideographs() {
        Checks.dueTokens("\u4e2d\u6587", "0:\u4e2d 1:\u6587");
        Checks.dueTokens("x\u4e2dy", "0:x 1:\u4e2d 2:y");
        Checks.dueTokens("_\u4e2d_", "0:\u4e2d");
        Checks.dueTokens("\u4e2d.\u4e2d", "0:\u4e2d 1:\u4e2d");
        Checks.dueTokens("\u4dff\u4e00\u9fff\ua000", "0:\u4e00 1:\u9fff");
    }

    private static void owners() {
        Checks.dueTokens("John's JOHN'S john\u2019s john\u2019S", "0:john 1:john 2:john 3:john");
        Checks.dueTokens("x's it's A'S", "0:x");
        Checks.dueTokens("x's's", "0:x's");
        Checks.dueTokens("x't x.s x\u00b7s", "0:x't 1:x.s 2:x\u00b7s");
        Checks.dueTokens("rivers' 1's", "0:river 1:1 2:s");
        Checks.dueTokens("running's", "0:run");
    }

    private static void lowering() {
        Checks.dueTokens("AZaz", "0:azaz");
        Checks.dueTokens("\u00c0\u00d6\u00d8\u00de\u00df\u00e0\u00ff", "0:\u00e0\u00f6\u00f8\u00fe\u00df\u00e0\u00ff");
        Checks.dueTokens("x\u00d7y\u00f7z", "0:x 1:y 2:z");
        Checks.dueTokens("\u0100\u024e\u024f", "0:\u0100\u024e\u024f");
        Checks.dueTokens("\u0391\u03a1\u03a2\u03a3\u03ab\u03ac\u03ff", "0:\u03b1\u03c1\u03a2\u03c3\u03cb\u03ac\u03ff");
        Checks.dueTokens("\u0400\u040f\u0410\u042f\u0430\u0460", "0:\u0450\u045f\u0430\u044f\u0430\u0460");
        Checks.dueTokens("\u0390x\u0386", "0:x");
        Checks.dueTokens("x\u0250\u04ff\u0500", "0:x 1:\u04ff");
    }

    private static void silentWords() {
        String list = "a an and are as at be but by for if in into is it no not of on or such that"
            + " the their then there these they this to was will with";
        for (String word : list.split(" ")) {
            for (String form : new String[] {word, word.toUpperCase(), word + "'s"}) {
                WordChain x = Checks.cut("x " + form + " y");
                Checks.due("around <" + form + ">", Checks.tokens(x), "0:x 2:y");
                Checks.due("WORDS around <" + form + ">", x.count(2), 3);
            }
        }
        Checks.dueTokens("its theirs the_ he 1 i ab", "0:it 1:their 2:the_ 3:he 4:1 5:i 6:ab");
        Checks.dueTokens("withe the1 th", "0:with 1:the1 2:th");
    }

    private static void longWords() {
        String x255 = "x".repeat(255);
        Checks.due("255", Checks.cut(x255).count(2), 1);
        Checks.due("256", Checks.cut(x255 + "x").count(2), 2);
        Checks.due("510", Checks.cut(x255 + x255).count(2), 2);
        Checks.due("511", Checks.cut(x255 + x255 + "x").count(2), 3);
        pieces(x255 + "_", 255, 1);
        pieces("_".repeat(255) + "x", 255, 1);
        pieces(x255 + "'s", 255, 2);
        pieces("1".repeat(254) + ",1", 255, 1);
        pieces(x255 + "y's", 255, 1);
        pieces("1" + "x".repeat(252) + "'s" + "y", 253, 1);
        Checks.due("joiners alone", Checks.cut("_".repeat(300)).count(2), 0);
        WordChain the = Checks.cut(x255 + "the x");
        Checks.due("a rest that says nothing", the.count(1), 2);
        Checks.due("its POSITION", the.token(1, 0), 2);
        Checks.due("a rest is stemmed", Checks.word(Checks.cut(x255 + "hopping"), 1), "hop");
        Checks.due("a mark begins a rest", Checks.word(Checks.cut("1" + "x".repeat(254) + "'sx"), 1), "'sx");
    }

    private static void pieces(String text, int... lengths) {
        WordChain x = Checks.cut(text);
        Checks.due("pieces of " + text, x.count(1), lengths.length);
        for (int i = 0; i < lengths.length && i < x.count(1); i++) {
            Checks.due("length of piece " + i + " of " + text, x.token(i, 1), lengths[i]);
            Checks.due("POSITION of piece " + i + " of " + text, x.token(i, 0), i);
        }
    }
}
