import java.util.ArrayList;
import java.util.Arrays;
import java.util.HexFormat;
import java.util.List;

/** How INPUT's bytes are read as CHARACTERS. */
final class Utf8Test {
    public static void main(String[] args) {
        wellFormed();
        values();
        noOverlong();
        noSurrogates();
        noneAbove();
        wrongLeads();
        wrongOnesBehind();
        cutShort();
        oneByteEach();
        nothingBehindTheEnd();
        allPairs();
        edgesOfLongerOnes();
        Checks.finish();
    }

    private static void wellFormed() {
        Checks.about("where a well-formed sequence begins, that's one CHARACTER");
        int[] edges = {
            0, 1, 0x7F, 0x80, 0x7FF, 0x800, 0xFFF, 0x1000, 0xCFFF, 0xD000, 0xD7FF, 0xE000, 0xEFFF, 0xF000,
            0xFFFD, 0xFFFE, 0xFFFF, 0x10000, 0x3FFFF, 0x40000, 0xFFFFF, 0x100000, 0x10FFFE, 0x10FFFF};
        for (int c : edges) {
            characters(Checks.utf8(Character.toString(c)), 1);
            characters(Checks.utf8(Character.toString(c).repeat(2)), 2);
        }
    }

    /** A value is seen where it makes a WORD; a wrong one would make one where none is due. */
    private static void values() {
        Checks.about("Read as CHARACTERS it's UTF-8");
        int[] shown = {
            'z', 0xE0, 0xFF, 0x100, 0x13F, 0x140, 0x17F, 0x180, 0x24F, 0x3BF, 0x3C0, 0x3FF, 0x430, 0x4BF, 0x4C0,
            0x4FF, 0x4E00, 0x4E3F, 0x4E40, 0x4FFF, 0x5000, 0x5FFF, 0x6000, 0x8000, 0x9FC0, 0x9FFF};
        for (int c : shown) {
            Checks.dueTokens(Character.toString(c), "0:" + Character.toString(c));
        }
        for (int high = 0x10000; high <= 0x100000; high += 0x10000) {
            String text = Character.toString(high + 'x') + Character.toString(high + 0x4E2D)
                + Character.toString(high + 0x451) + Character.toString(high + '1');
            WordChain x = Checks.cut(text);
            Checks.due("counts from " + Integer.toHexString(high), Checks.counts(x), "0 0 0 4 0");
        }
        Checks.dueTokens("x\ud83d\ude00y", "0:x 1:y");
        Checks.dueTokens("x\ufffdy", "0:x 1:y");
    }

    private static void noOverlong() {
        Checks.about("no overlong ones");
        characters(bytes("c080"), 2);
        characters(bytes("c1a1"), 2);
        characters(bytes("c1bf"), 2);
        characters(bytes("c280"), 1);
        characters(bytes("e08080"), 3);
        characters(bytes("e081a1"), 3);
        characters(bytes("e09fbf"), 3);
        characters(bytes("e0a080"), 1);
        characters(bytes("f0808080"), 4);
        characters(bytes("f08081a1"), 4);
        characters(bytes("f08fbfbf"), 4);
        characters(bytes("f0908080"), 1);
        noWord("c1b8");
        noWord("e081b8");
        noWord("f08081b8");
        noWord("e083a9");
        noWord("f084b8ad");
    }

    private static void noSurrogates() {
        Checks.about("no surrogates");
        characters(bytes("ed9fbf"), 1);
        characters(bytes("eda080"), 3);
        characters(bytes("edafbf"), 3);
        characters(bytes("edb080"), 3);
        characters(bytes("edbfbf"), 3);
        characters(bytes("ee8080"), 1);
        characters(bytes("eda081edb081"), 6);
    }

    private static void noneAbove() {
        Checks.about("none above U+10FFFF");
        characters(bytes("f48fbfbf"), 1);
        characters(bytes("f4908080"), 4);
        characters(bytes("f4bfbfbf"), 4);
        characters(bytes("f5808080"), 4);
        characters(bytes("f7bfbfbf"), 4);
        characters(bytes("f888808080"), 5);
        characters(bytes("fc8480808080"), 6);
        characters(bytes("feff"), 2);
    }

    private static void wrongLeads() {
        Checks.about("else one byte is the CHARACTER U+FFFD: a byte that begins nothing");
        for (int b = 0; b < 256; b++) {
            characters(Checks.bytes(b), 1);
        }
        for (int b = 0x80; b <= 0xFF; b++) {
            WordChain x = Checks.cut(Checks.bytes('x', b, 'y'));
            Checks.due("around " + Integer.toHexString(b), Checks.tokens(x), "0:x 1:y");
            Checks.due("CHARACTERS with " + Integer.toHexString(b), x.count(3), 3);
        }
        characters(bytes("80"), 1);
        characters(bytes("bfbf"), 2);
    }

    private static void wrongOnesBehind() {
        Checks.about("else one byte is the CHARACTER U+FFFD: a byte behind it is out of 80 .. BF");
        characters(bytes("c27f"), 2);
        characters(bytes("c2c0"), 2);
        characters(bytes("dfbf"), 1);
        characters(bytes("df7f"), 2);
        characters(bytes("e17f80"), 3);
        characters(bytes("e1c080"), 3);
        characters(bytes("e1807f"), 3);
        characters(bytes("e180c0"), 3);
        characters(bytes("f17f8080"), 4);
        characters(bytes("f1807f80"), 4);
        characters(bytes("f180807f"), 4);
        characters(bytes("f18080c0"), 4);
        Checks.due("the byte behind is itself", Checks.tokens(Checks.cut(bytes("c378"))), "0:x");
        Checks.due("the second byte behind is itself", Checks.tokens(Checks.cut(bytes("e4b878"))), "0:x");
        Checks.due("the third byte behind is itself", Checks.tokens(Checks.cut(bytes("f09f9878"))), "0:x");
        Checks.due("a new one begins there", Checks.tokens(Checks.cut(bytes("f09fc3a9"))), "0:\u00e9");
        Checks.due("and there", Checks.tokens(Checks.cut(bytes("e4e4b8ad"))), "0:\u4e2d");
    }

    private static void cutShort() {
        Checks.about("else one byte is the CHARACTER U+FFFD: a sequence that INPUT's end cuts short");
        characters(bytes("c3"), 1);
        characters(bytes("e4"), 1);
        characters(bytes("e4b8"), 2);
        characters(bytes("f0"), 1);
        characters(bytes("f09f"), 2);
        characters(bytes("f09f98"), 3);
        characters(bytes("c3a9"), 1);
        characters(bytes("e4b8ad"), 1);
        characters(bytes("f09f9880"), 1);
        for (String end : new String[] {"c3", "e4b8", "f09f98"}) {
            byte[] last = bytes(end);
            byte[] text = new byte[8192];
            System.arraycopy(last, 0, text, 8192 - last.length, last.length);
            Checks.due("full, ends with " + end, Checks.counts(Checks.cut(text)), "0 0 0 8192 0");
        }
    }

    private static void oneByteEach() {
        Checks.about("else one byte is the CHARACTER U+FFFD: one byte, not what belongs to it");
        Checks.due("counts", Checks.counts(Checks.cut(bytes("78e18078"))), "0 2 2 4 2");
        WordChain x = Checks.cut(bytes("78c379c3a9e4b87a"));
        Checks.due("they end a WORD", Checks.tokens(x), "0:x 1:y\u00e9 2:z");
        Checks.due("CHARACTERS", x.count(3), 7);
        Checks.due("8192 of them", Checks.counts(Checks.cut(Checks.utf8("\u00e9".repeat(4096)))), "0 17 17 4096 4096");
        byte[] wrong = new byte[8192];
        Arrays.fill(wrong, (byte) 0x80);
        Checks.due("8192 wrong ones", Checks.counts(Checks.cut(wrong)), "0 0 0 8192 0");
    }

    /** What went with end, or with a cut, must not be looked at. */
    private static void nothingBehindTheEnd() {
        Checks.about("INPUT is a row of bytes: those that went don't count");
        WordChain x = Checks.fed(bytes("c3a9"));
        x.end(19);
        x.cut();
        Checks.due("without its second byte", Checks.counts(x), "0 0 0 1 0");
        Checks.feed(x, bytes("78c3"));
        x.cut();
        Checks.due("tokens", Checks.tokens(x), "0:x");
        Checks.due("without what an earlier cut had", x.count(3), 2);
        WordChain y = Checks.fed(bytes("c3a9"));
        y.end(19);
        Checks.feed(y, bytes("a8"));
        y.cut();
        Checks.due("with another second byte", Checks.tokens(y), "0:\u00e8");
    }

    private static void allPairs() {
        Checks.about("a well-formed sequence (as Unicode has it): of all pairs of bytes");
        List<byte[]> all = new ArrayList<>();
        for (int pair = 0; pair < 0x10000; pair++) {
            all.add(Checks.bytes(pair >> 8, pair & 0xFF));
        }
        countEach(all);
    }

    private static void edgesOfLongerOnes() {
        Checks.about("a well-formed sequence (as Unicode has it): at the edges of three and four bytes");
        int[] seconds = {0x7F, 0x80, 0x8F, 0x90, 0x9F, 0xA0, 0xBF, 0xC0};
        int[] others = {0x7F, 0x80, 0xBF, 0xC0};
        List<byte[]> all = new ArrayList<>();
        for (int lead = 0xC0; lead <= 0xFF; lead++) {
            for (int second : seconds) {
                for (int third : others) {
                    all.add(Checks.bytes(lead, second, third));
                    for (int fourth : others) {
                        all.add(Checks.bytes(lead, second, third, fourth));
                    }
                }
            }
        }
        countEach(all);
    }

    /** Four calls a text, and 512 an object. */
    private static void countEach(List<byte[]> all) {
        WordChain x = new WordChain();
        int used = 0;
        for (byte[] text : all) {
            if (used == 120) {
                x = new WordChain();
                used = 0;
            }
            used++;
            Checks.feed(x, text);
            x.cut();
            Checks.due("CHARACTERS of " + HexFormat.of().formatHex(text), x.count(3), characterCount(text));
        }
    }

    /** A sequence is well-formed if its value, written anew, gives the same bytes. */
    private static int characterCount(byte[] text) {
        int count = 0;
        int at = 0;
        while (at < text.length) {
            int size = 1;
            for (int tried = 4; tried >= 2 && size == 1; tried--) {
                size = at + tried <= text.length && isWellFormed(text, at, tried) ? tried : 1;
            }
            count++;
            at += size;
        }
        return count;
    }

    private static boolean isWellFormed(byte[] text, int at, int size) {
        int value = text[at] & (0x7F >> size);
        for (int k = 1; k < size; k++) {
            value = value * 64 + (text[at + k] & 0x3F);
        }
        boolean isSurrogate = value >= 0xD800 && value <= 0xDFFF;
        if (isSurrogate || value > 0x10FFFF) {
            return false;
        }
        byte[] anew = Checks.utf8(Character.toString(value));
        return Arrays.equals(anew, Arrays.copyOfRange(text, at, at + size));
    }

    private static byte[] bytes(String hex) {
        return HexFormat.of().parseHex(hex);
    }

    private static void noWord(String hex) {
        Checks.due("WORDS of " + hex, Checks.cut(bytes(hex)).count(2), 0);
    }

    /** Fed byte by byte, in front of old bytes that would go on with a sequence. */
    private static void characters(byte[] bytes, int want) {
        WordChain x = new WordChain();
        Checks.feed(x, bytes("8080808080808080"));
        x.cut();
        x.feed(0x80808080, 0x80808080, 0x80808080, 0x80808080, 0x80808080);
        x.end(0);
        for (byte b : bytes) {
            x.feed((b & 0xFF) << 24 | 0x808080, 0x80808080, 0x80808080, 0x80808080, 0x80808080);
            x.end(1);
        }
        x.cut();
        Checks.due("CHARACTERS of " + HexFormat.of().formatHex(bytes), x.count(3), want);
    }
}
