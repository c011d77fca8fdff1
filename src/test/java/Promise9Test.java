/** count: lengths and numbers of INPUT, TOKENS, WORDS and CHARACTERS. */
final class Promise9Test {
    public static void main(String[] args) {
        inputsLength();
        tokens();
        words();
        characters();
        charactersOfTokens();
        fromCallToCall();
        anotherWhat();
        Checks.finish();
    }

    private static void inputsLength() {
        Checks.about("INPUT's length (0)");
        Checks.due("empty", new WordChain().count(0), 0);
        Checks.due("one", Checks.fed(new byte[1]).count(0), 1);
        Checks.due("20", Checks.fed(new byte[20]).count(0), 20);
        Checks.due("in bytes, not in CHARACTERS", Checks.fed(Checks.utf8("\u4e2d\u00e9")).count(0), 5);
        Checks.due("8191", Checks.fed(new byte[8191]).count(0), 8191);
        Checks.due("8192", Checks.fed(new byte[8192]).count(0), 8192);
        Checks.due("cut", Checks.cut("rivers").count(0), 0);
    }

    private static void dueOf(String text, int what, int want) {
        Checks.due("count(" + what + ") of <" + text + ">", Checks.cut(text).count(what), want);
    }

    private static void tokens() {
        Checks.about("TOKENS (1)");
        dueOf("", 1, 0);
        dueOf("the", 1, 0);
        dueOf("x", 1, 1);
        dueOf("x x", 1, 2);
        dueOf("x the y", 1, 2);
        dueOf("x ".repeat(4096), 1, 4096);
    }

    private static void words() {
        Checks.about("WORDS of the text of the latest cut, those that went, too (2)");
        dueOf("", 2, 0);
        dueOf("the", 2, 1);
        dueOf("x the y", 2, 3);
        dueOf("_ ' __", 2, 0);
        dueOf("a ".repeat(4096), 2, 4096);
        dueOf("x".repeat(255), 2, 1);
        dueOf("x".repeat(256), 2, 2);
    }

    private static void characters() {
        Checks.about("its CHARACTERS (3)");
        dueOf("", 3, 0);
        dueOf("x", 3, 1);
        dueOf(" ", 3, 1);
        dueOf("the", 3, 3);
        dueOf("\u4e2d\u00e9\ud83d\ude00x", 3, 4);
        dueOf(" ".repeat(8192), 3, 8192);
        dueOf("\u00e9".repeat(4096), 3, 4096);
        dueOf("\ud83d\ude00".repeat(2048), 3, 2048);
        Checks.due("each byte one", Checks.cut(Checks.bytes(0xFF, 0xFF, 0xFF)).count(3), 3);
    }

    private static void charactersOfTokens() {
        Checks.about("the CHARACTERS of all TOKENS (4)");
        dueOf("", 4, 0);
        dueOf("the", 4, 0);
        dueOf("x", 4, 1);
        dueOf("rivers the caf\u00e9's", 4, 9);
        dueOf("x x x", 4, 3);
        dueOf("1".repeat(8192), 4, 8192);
        dueOf("1".repeat(255) + "'s", 4, 256);
        dueOf("x".repeat(255) + "'s", 4, 257);
    }

    private static void fromCallToCall() {
        Checks.about("WORDS of the text of the latest cut (2), its CHARACTERS (3; both 0 before any)");
        WordChain x = new WordChain();
        Checks.due("new", Checks.counts(x), "0 0 0 0 0");
        Checks.feed(x, Checks.utf8("The caf\u00e9 of rivers, \u4e2d!"));
        Checks.due("fed", Checks.counts(x), "25 0 0 0 0");
        x.cut();
        Checks.due("cut", Checks.counts(x), "0 3 5 22 10");
        Checks.feed(x, Checks.utf8("some more"));
        Checks.due("fed again", Checks.counts(x), "9 3 5 22 10");
        x.end(19);
        Checks.due("ended", Checks.counts(x), "8 3 5 22 10");
        Checks.refused("end(20)", IllegalArgumentException.class, () -> x.end(20));
        Checks.due("refused", Checks.counts(x), "8 3 5 22 10");
        x.cut();
        Checks.due("cut again", Checks.counts(x), "0 2 2 8 7");
        Checks.feed(x, Checks.utf8("the __ .. "));
        x.cut();
        Checks.due("nothing stays", Checks.counts(x), "0 0 1 10 0");
        x.cut();
        Checks.due("cut of nothing", Checks.counts(x), "0 0 0 0 0");
    }

    private static void anotherWhat() {
        Checks.about("else -1");
        WordChain x = Checks.cut("rivers and lakes");
        Checks.feed(x, Checks.utf8("hills"));
        for (int what : new int[] {-1, 5, -2, 6, 7, 8, 255, 256, Integer.MIN_VALUE, Integer.MAX_VALUE}) {
            Checks.due("count(" + what + ")", x.count(what), -1);
            Checks.due("count(" + what + ") of a new one", new WordChain().count(what), -1);
        }
        Checks.due("all is as it was", Checks.counts(x), "5 2 3 16 9");
    }
}
