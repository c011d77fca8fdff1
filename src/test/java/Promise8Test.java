import java.util.Arrays;

/** sort: what a CHARACTER is. */
final class Promise8Test {
    private static final WordChain ONE = new WordChain();

    public static void main(String[] args) {
        letters();
        digits();
        joiners();
        between();
        ideographs();
        range();
        anyState();
        eachCharacter();
        Checks.finish();
    }

    private static void due(int sort, int... characters) {
        for (int c : characters) {
            Checks.due("sort(" + Integer.toHexString(c) + ")", ONE.sort(c), sort);
        }
    }

    private static void letters() {
        Checks.about("LETTERS: A .. Z, a .. z");
        due(1, 'A', 'B', 'Y', 'Z', 'a', 'b', 'y', 'z');
        due(0, 'A' - 1, 'Z' + 1, 'a' - 1, 'z' + 1);
        Checks.about("U+00C0 .. U+024F without U+00D7 and U+00F7");
        due(1, 0xC0, 0xC1, 0xD6, 0xD8, 0xF6, 0xF8, 0x100, 0x24E, 0x24F);
        due(0, 0xBF, 0xD7, 0xF7, 0x250);
        Checks.about("U+0391 .. U+03FF, U+0400 .. U+04FF");
        due(1, 0x391, 0x392, 0x3A2, 0x3FE, 0x3FF, 0x400, 0x401, 0x4FE, 0x4FF);
        due(0, 0x390, 0x386, 0x370, 0x500, 0x501);
    }

    private static void digits() {
        Checks.about("DIGITS: 0 .. 9");
        due(2, '0', '1', '8', '9');
        due(0, '0' - 1, '9' + 1, 0xB2, 0x660, 0xFF10);
    }

    private static void joiners() {
        Checks.about("JOINERS: _");
        due(3, '_');
        due(0, '_' - 1, '_' + 1, '-', 0x203F);
    }

    private static void between() {
        Checks.about("Between LETTERS: U+00B7");
        due(4, 0xB7);
        due(0, 0xB6, 0xB8, 0x387, 0x2E0);
        Checks.about("Between DIGITS: , and ;");
        due(5, ',', ';');
        due(0, ',' - 1, ',' + 1, ':', '<');
        Checks.about("Between both: ' . U+2019");
        due(6, '\'', '.', 0x2019);
        due(0, '&', '(', '/', '-', 0x2018, 0x201A);
    }

    private static void ideographs() {
        Checks.about("IDEOGRAPHS: U+4E00 .. U+9FFF");
        due(7, 0x4E00, 0x4E01, 0x9FFE, 0x9FFF);
        due(0, 0x4DFF, 0xA000, 0x3400, 0xF900, 0x14E00, 0x20000);
    }

    private static void range() {
        Checks.about("Not 0 .. 1114111 (surrogates are 0): bad");
        due(0, 0, 1, 0xD7FF, 0xD800, 0xDBFF, 0xDC00, 0xDFFF, 0xE000, 0xFFFF, 0x10000, 1114110, 1114111);
        int[] wrong = {-1, 1114112, -2, 1114113, 1114111 + 'b', Integer.MIN_VALUE, Integer.MIN_VALUE + 'b',
            Integer.MAX_VALUE, -65536 + 'b', 0x1000062, -'b'};
        for (int c : wrong) {
            Checks.refused("sort(" + c + ")", IllegalArgumentException.class, () -> ONE.sort(c));
        }
        due(1, 'b');
    }

    private static void anyState() {
        Checks.about("What a CHARACTER is: whatever was fed and cut");
        WordChain x = Checks.cut("x_\u4e2d rivers 1,2");
        Checks.feed(x, Checks.utf8("lakes"));
        Checks.due("a LETTER", x.sort('x'), 1);
        Checks.due("an IDEOGRAPH", x.sort(0x4E2D), 7);
        Checks.refused("none", IllegalArgumentException.class, () -> x.sort(-1));
        Checks.refused("none", IllegalArgumentException.class, () -> x.sort(1114112));
        Checks.due("counts", Checks.counts(x), "5 4 4 14 11");
        Checks.due("TOKENS", Checks.tokens(x), "0:x_ 1:\u4e2d 2:river 3:1,2");
    }

    private static void eachCharacter() {
        Checks.about("What a CHARACTER is: 0 nothing of what's named, 1 LETTER .. 7 IDEOGRAPH");
        WordChain x = new WordChain();
        int[] wants = wants();
        for (int c = 0; c <= 0x10FFFF; c++) {
            if (c % 500 == 0) {
                x = new WordChain();
            }
            Checks.due("sort(" + c + ")", x.sort(c), wants[c]);
        }
    }

    private static int[] wants() {
        int[] wants = new int[0x110000];
        put(wants, 'A', 'Z', 1);
        put(wants, 'a', 'z', 1);
        put(wants, 0xC0, 0x24F, 1);
        put(wants, 0xD7, 0xD7, 0);
        put(wants, 0xF7, 0xF7, 0);
        put(wants, 0x391, 0x3FF, 1);
        put(wants, 0x400, 0x4FF, 1);
        put(wants, '0', '9', 2);
        put(wants, '_', '_', 3);
        put(wants, 0xB7, 0xB7, 4);
        put(wants, ',', ',', 5);
        put(wants, ';', ';', 5);
        put(wants, '\'', '\'', 6);
        put(wants, '.', '.', 6);
        put(wants, 0x2019, 0x2019, 6);
        put(wants, 0x4E00, 0x9FFF, 7);
        return wants;
    }

    private static void put(int[] wants, int from, int to, int sort) {
        Arrays.fill(wants, from, to + 1, sort);
    }
}
