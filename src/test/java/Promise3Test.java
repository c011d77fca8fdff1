/** end: the last 20 - n bytes go, or none. */
final class Promise3Test {
    public static void main(String[] args) {
        everyNumberAndLength();
        whichBytesGo();
        outOfRange();
        refusedEnd();
        fullInput();
        tokensStay();
        Checks.finish();
    }

    private static void everyNumberAndLength() {
        Checks.about("The last 20 - n (n 0 .. 19) bytes of INPUT go; if it hasn't as many: bad, and none goes");
        for (int length = 0; length <= 41; length++) {
            for (int n = 0; n <= 19; n++) {
                endOf(length, n);
            }
        }
    }

    private static void endOf(int length, int n) {
        WordChain x = Checks.fed(new byte[length]);
        String what = "end(" + n + ") of " + length;
        if (length >= 20 - n) {
            Checks.due(what, x.end(n), length - 20 + n);
            Checks.due("length after " + what, x.count(0), length - 20 + n);
        } else {
            Checks.refused(what, IllegalArgumentException.class, () -> x.end(n));
            Checks.due("length after refused " + what, x.count(0), length);
        }
    }

    private static void whichBytesGo() {
        Checks.about("The last 20 - n (n 0 .. 19) bytes of INPUT go");
        String letters = "bcdfghjklmnpqrtvwxzb";
        for (int n = 1; n <= 19; n++) {
            WordChain x = Checks.fed(Checks.utf8(letters));
            x.end(n);
            x.cut();
            Checks.due("after end(" + n + ")", Checks.tokens(x), "0:" + letters.substring(0, n));
        }
        WordChain x = Checks.fed(Checks.utf8("one two three four five six"));
        x.end(12);
        x.end(19);
        Checks.feed(x, Checks.utf8("x"));
        x.cut();
        Checks.due("those that went don't come back", Checks.tokens(x), "0:on 1:two 2:three 3:fourx");
    }

    private static void outOfRange() {
        Checks.about("\"Bad\" is IllegalArgumentException, a number out of range: end");
        WordChain x = Checks.fed(Checks.utf8("river and lake and hill and other words."));
        int[] wrong = {-1, 20, 21, -2, -19, -20, -21, 39, 40, -8192, 8192, Integer.MIN_VALUE,
            Integer.MIN_VALUE + 19, Integer.MIN_VALUE + 20, Integer.MAX_VALUE};
        for (int n : wrong) {
            Checks.refused("end(" + n + ")", IllegalArgumentException.class, () -> x.end(n));
            Checks.due("length after refused end(" + n + ")", x.count(0), 40);
        }
        WordChain full = Checks.fed(new byte[8192]);
        for (int n : wrong) {
            Checks.refused("end(" + n + ") of a full one", IllegalArgumentException.class, () -> full.end(n));
        }
        Checks.due("length of the full one", full.count(0), 8192);
        Checks.due("TOKENS after refused ends", x.cut(), 5);
        Checks.due("tokens after refused ends", Checks.tokens(x), "0:river 2:lake 4:hill 6:other 7:word");
    }

    private static void refusedEnd() {
        Checks.about("A refused call (one that throws) changes nothing: end");
        WordChain x = Checks.fed(Checks.utf8("lakes"));
        Checks.refused("six of five", IllegalArgumentException.class, () -> x.end(14));
        Checks.refused("twenty of five", IllegalArgumentException.class, () -> x.end(0));
        Checks.due("five still", x.count(0), 5);
        Checks.due("one of five", x.end(19), 4);
        Checks.refused("five of four", IllegalArgumentException.class, () -> x.end(15));
        Checks.due("cut after refused ends", x.cut(), 1);
        Checks.due("tokens after refused ends", Checks.tokens(x), "0:lake");
        Checks.refused("one of none", IllegalArgumentException.class, () -> x.end(19));
        Checks.due("counts after refused end", Checks.counts(x), "0 1 1 4 4");
    }

    private static void fullInput() {
        Checks.about("Answers its length: end");
        WordChain x = Checks.fed(new byte[8192]);
        Checks.due("end(0)", x.end(0), 8172);
        Checks.due("end(19)", x.end(19), 8171);
        Checks.due("feed", x.feed(0, 0, 0, 0, 0), 8191);
        Checks.due("end(1)", x.end(1), 8172);
        Checks.due("feed to the full", x.feed(0, 0, 0, 0, 0), 8192);
    }

    private static void tokensStay() {
        Checks.about("The last 20 - n bytes of INPUT go: and nothing else");
        WordChain x = Checks.cut("old rivers");
        Checks.feed(x, Checks.utf8("new text that goes.."));
        x.end(8);
        Checks.due("TOKENS stay", Checks.tokens(x), "0:old 1:river");
        Checks.due("counts", Checks.counts(x), "8 2 2 10 8");
        x.cut();
        Checks.due("the first bytes stay", Checks.tokens(x), "0:new 1:text");
    }
}
