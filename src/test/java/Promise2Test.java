/** feed: twenty bytes more, the highest of a first; not above 8192. */
final class Promise2Test {
    public static void main(String[] args) {
        order();
        highBytes();
        full();
        oneByteTooMany();
        fullToTheLastByte();
        Checks.finish();
    }

    private static void order() {
        WordChain x = new WordChain();
        Checks.due("feed", x.feed(0x61626364, 0x65666768, 0x696A6B6C, 0x6D6E6F70, 0x71727374), 20);
        Checks.due("feed again", x.feed(0x31323334, 0x35363738, 0x39303132, 0x33343536, 0x37383930), 40);
        Checks.due("count(0)", x.count(0), 40);
        x.cut();
        Checks.due("bytes in order", Checks.tokens(x), "0:abcdefghijklmnopqrst12345678901234567890");
    }

    private static void highBytes() {
        WordChain x = new WordChain();
        x.feed(0xC3A9C3A9, 0xC3A9C3A9, 0xC3A9C3A9, 0xC3A9C3A9, 0xC3A9C3A9);
        x.cut();
        Checks.due("ten of U+00E9", Checks.tokens(x), "0:" + "\u00e9".repeat(10));
    }

    private static void full() {
        WordChain x = new WordChain();
        for (int k = 1; k <= 409; k++) {
            Checks.due("feed " + k, x.feed(0x61206120, 0x61206120, 0x61206120, 0x61206120, 0x61206120), 20 * k);
        }
        Checks.refused("feed 410", IndexOutOfBoundsException.class, () -> x.feed(1, 2, 3, 4, 5));
        Checks.due("length after refusal", x.count(0), 8180);
        Checks.due("end(7)", x.end(7), 8167);
        Checks.due("feed to 8187", x.feed(0, 0, 0, 0, 0), 8187);
        Checks.refused("feed at 8187", IndexOutOfBoundsException.class, () -> x.feed(1, 2, 3, 4, 5));
        Checks.due("a's go", x.cut(), 0);
        Checks.due("CHARACTERS", x.count(3), 8187);
        Checks.due("WORDS", x.count(2), 4084);
        Checks.due("feed after cut", x.feed(0, 0, 0, 0, 0), 20);
    }

    private static void oneByteTooMany() {
        WordChain x = new WordChain();
        Checks.feed(x, new byte[8173]);
        Checks.refused("feed to 8193", IndexOutOfBoundsException.class, () -> x.feed(1, 2, 3, 4, 5));
        Checks.due("length after refusal", x.count(0), 8173);
        Checks.due("one byte less", x.end(19), 8172);
        Checks.due("feed to 8192", x.feed(1, 2, 3, 4, 5), 8192);
    }

    private static void fullToTheLastByte() {
        WordChain x = new WordChain();
        Checks.feed(x, Checks.utf8("x ".repeat(4096)));
        Checks.due("full length", x.count(0), 8192);
        Checks.refused("feed when full", IndexOutOfBoundsException.class, () -> x.feed(1, 2, 3, 4, 5));
        Checks.due("full length still", x.count(0), 8192);
        Checks.due("TOKENS of a full INPUT", x.cut(), 4096);
        Checks.due("last POSITION", x.token(4095, 0), 4095);
        Checks.due("last character", x.character(4095, 0), (int) 'x');
        Checks.due("first of the last", x.first(4095), 0);
        Checks.due("CHARACTERS of all TOKENS", x.count(4), 4096);
    }
}
