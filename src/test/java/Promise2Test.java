/** feed: twenty bytes more, the highest of a first; not above 8192. */
final class Promise2Test {
    public static void main(String[] args) {
        twentyMore();
        highestFirst();
        highBytes();
        behindWhatIsThere();
        atMost8192();
        theLastBytes();
        refusedFeed();
        answersLength();
        Checks.finish();
    }

    private static void twentyMore() {
        Checks.about("INPUT gets twenty bytes more");
        WordChain x = new WordChain();
        x.feed(0, 0, 0, 0, 0);
        Checks.due("length", x.count(0), 20);
        x.feed(-1, -1, -1, -1, -1);
        Checks.due("length", x.count(0), 40);
        x.cut();
        Checks.due("twenty of U+0000, twenty of U+FFFD", x.count(3), 40);
    }

    private static void highestFirst() {
        Checks.about("the highest of a first");
        WordChain x = new WordChain();
        x.feed(0x62636466, 0x67686A6B, 0x6C6D6E70, 0x71727476, 0x7778797A);
        x.cut();
        Checks.due("bytes in order", Checks.tokens(x), "0:bcdfghjklmnpqrtvwxyz");
        for (int place = 0; place < 20; place++) {
            oneByte(place);
        }
    }

    /** A byte stays just if end leaves more bytes than stand before it. */
    private static void oneByte(int place) {
        int[] packed = {0, 0, 0, 0, 0};
        packed[place / 4] = 'x' << (24 - 8 * (place % 4));
        for (int left = place; left <= place + 1; left++) {
            WordChain x = new WordChain();
            x.feed(packed[0], packed[1], packed[2], packed[3], packed[4]);
            if (left < 20) {
                x.end(left);
            }
            Checks.due("byte " + place + " of " + left, x.cut(), left > place ? 1 : 0);
        }
    }

    private static void highBytes() {
        Checks.about("INPUT is a row of bytes");
        WordChain x = new WordChain();
        x.feed(0xC3A9C3A9, 0xC3A9C3A9, 0xC3A9C3A9, 0xC3A9C3A9, 0xC3A9C3A9);
        x.cut();
        Checks.due("ten of U+00E9", Checks.tokens(x), "0:" + "\u00e9".repeat(10));
        x.feed(0x78C3A9C3, 0xA9C3A9C3, 0xA9C3A9C3, 0xA9C3A9C3, 0xA9C3A978);
        x.cut();
        Checks.due("nine of U+00E9, one byte on", Checks.tokens(x), "0:x" + "\u00e9".repeat(9) + "x");
        x.feed(0xFFFFFF78, 0xFFFF78FF, 0xFF78FFFF, 0x78FFFFFF, 0xFF787878);
        x.cut();
        Checks.due("between bytes of all ones", Checks.tokens(x), "0:x 1:x 2:x 3:x 4:xxx");
    }

    private static void behindWhatIsThere() {
        Checks.about("INPUT gets twenty bytes more: behind those that it has");
        WordChain x = new WordChain();
        Checks.feed(x, Checks.utf8("river la"));
        x.feed(0x6B65206F, 0x6E652074, 0x776F2074, 0x68726565, 0x20666F75);
        x.cut();
        Checks.due("a WORD over two feeds", Checks.tokens(x), "0:river 1:lake 2:on 3:two 4:three 5:fou");
    }

    private static void atMost8192() {
        Checks.about("INPUT is a row of bytes, at most 8192 / More than 8192: IndexOutOfBoundsException");
        for (int length = 8150; length <= 8192; length++) {
            WordChain x = Checks.fed(new byte[length]);
            Checks.due("length", x.count(0), length);
            if (length <= 8172) {
                Checks.due("feed at " + length, x.feed(1, 2, 3, 4, 5), length + 20);
            } else {
                Checks.refused("feed at " + length, IndexOutOfBoundsException.class,
                    () -> x.feed(1, 2, 3, 4, 5));
                Checks.due("length after refused feed", x.count(0), length);
            }
        }
    }

    private static void theLastBytes() {
        Checks.about("INPUT is a row of bytes, at most 8192: all of them are cut");
        lastWord(8191, "x", "0:x", 8192);
        lastWord(8190, "x", "0:x", 8191);
        lastWord(8190, "\u00e9", "0:\u00e9", 8191);
        lastWord(8189, "\u4e2d", "0:\u4e2d", 8190);
        lastWord(8189, "x\u00e9", "0:x\u00e9", 8191);
        lastWord(8188, "\ud83d\ude00", "", 8189);
        lastWord(8184, "rivers'x", "0:rivers'x", 8192);
        WordChain x = Checks.cut("x ".repeat(4096));
        Checks.due("counts of a full INPUT", Checks.counts(x), "0 4096 4096 8192 4096");
        Checks.due("last POSITION", x.token(4095, 0), 4095);
        Checks.due("last CHARACTER", x.character(4095, 0), (int) 'x');
        Checks.due("first of the last", x.first(4095), 0);
        Checks.due("all in one WORD", Checks.counts(Checks.cut("x".repeat(8192))), "0 33 33 8192 8192");
    }

    private static void lastWord(int spaces, String word, String tokens, int characters) {
        WordChain x = Checks.cut(" ".repeat(spaces) + word);
        Checks.due(word + " behind " + spaces, Checks.tokens(x), tokens);
        Checks.due("CHARACTERS with " + word + " behind " + spaces, x.count(3), characters);
    }

    private static void refusedFeed() {
        Checks.about("A refused call (one that throws) changes nothing: feed");
        for (int length : new int[] {8173, 8180, 8191, 8192}) {
            WordChain x = Checks.fed(Checks.utf8(" ".repeat(length - 7) + "x lakes"));
            for (int time = 0; time < 3; time++) {
                Checks.refused("feed at " + length, IndexOutOfBoundsException.class,
                    () -> x.feed(0x79797979, 0x79797979, 0x79797979, 0x79797979, 0x79797979));
                Checks.due("length after refused feed", x.count(0), length);
            }
            Checks.due("TOKENS", x.cut(), 2);
            Checks.due("tokens after refused feeds", Checks.tokens(x), "0:x 1:lake");
            Checks.due("feed after the cut", x.feed(0, 0, 0, 0, 0), 20);
        }
        WordChain x = Checks.fed(new byte[8173]);
        Checks.refused("one byte too many", IndexOutOfBoundsException.class, () -> x.feed(1, 2, 3, 4, 5));
        Checks.due("one byte less", x.end(19), 8172);
        Checks.due("as many as there may be", x.feed(1, 2, 3, 4, 5), 8192);
    }

    private static void answersLength() {
        Checks.about("Answers its length: feed");
        WordChain x = new WordChain();
        for (int k = 1; k <= 409; k++) {
            Checks.due("feed " + k, x.feed(0x61206120, 0x61206120, 0x61206120, 0x61206120, 0x61206120), 20 * k);
        }
        Checks.due("end(7)", x.end(7), 8167);
        Checks.due("feed to 8187", x.feed(0, 0, 0, 0, 0), 8187);
        Checks.due("a's go", x.cut(), 0);
        Checks.due("counts", Checks.counts(x), "0 0 4084 8187 0");
        Checks.due("feed after cut", x.feed(0, 0, 0, 0, 0), 20);
    }
}
