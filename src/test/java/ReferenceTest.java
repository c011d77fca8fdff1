import java.util.ArrayList;
import java.util.Arrays;
import java.util.List;
import java.util.Random;

/** Compares whole answers with a second program, by patterns over Strings, on made-up texts. */
final class ReferenceTest {
    private static final String[] PARTS = {
        "s", "es", "ies", "sses", "ed", "eed", "ing", "y", "at", "bl", "iz", "ll", "tt", "zz", "ss", "yy",
        "ational", "tional", "enci", "anci", "izer", "abli", "alli", "entli", "eli", "ousli", "ization",
        "ation", "ator", "alism", "iveness", "fulness", "ousness", "aliti", "iviti", "biliti", "icate",
        "ative", "alize", "iciti", "ical", "ful", "ness", "al", "ance", "ence", "er", "ic", "able",
        "ible", "ant", "ement", "ment", "ent", "ion", "sion", "tion", "ou", "ism", "ate", "iti", "ous",
        "ive", "ize", "e", "le", "a", "o", "u", "i", "b", "c", "d", "f", "l", "m", "n", "p", "r", "t",
        "w", "x", "z", "hop", "the", "it"};
    private static final String[] SIGNS = {
        "a", "s", "S", "Z", "x", "\u00d7", "\u00f7", "\u00c9", "\u0178", "\u03a3", "\u03a2", "\u0416",
        "\u0401", "0", "9", "_", "_", "\u00b7", ",", ";", "'", "'s", ".", "\u2019", "\u2019s", "\u4e2d",
        " ", " ", "-", "\n", "the", "To", "\ufffd", "\ud83d\ude00", "\u0000"};
    private static final int[] BYTES = {
        'x', 's', ' ', 0x80, 0x8F, 0x90, 0x9F, 0xA0, 0xA9, 0xB7, 0xBF, 0xC0, 0xC1, 0xC2, 0xC3, 0xCF, 0xD0,
        0xDF, 0xE0, 0xE2, 0xE4, 0xED, 0xEF, 0xF0, 0xF1, 0xF3, 0xF4, 0xF5, 0xFF};

    public static void main(String[] args) {
        Random random = new Random(20261115);
        for (int round = 0; round < 30000; round++) {
            compare(Checks.utf8(madeWord(random)));
            compare(Checks.utf8(joined(random, SIGNS, 1 + random.nextInt(25))));
            compare(madeBytes(random, 1 + random.nextInt(40)));
        }
        for (int round = 0; round < 40; round++) {
            compareLarge(Arrays.copyOf(Checks.utf8(joined(random, SIGNS, 8192)), 8192 - round), random);
            compareLarge(madeBytes(random, 8192 - round), random);
            compareLarge(Checks.utf8(joined(random, new String[] {"x", "_", "1", "'s"}, 4000)), random);
        }
        for (int round = 0; round < 2000; round++) {
            compareInARow(random);
        }
        compareShortWords(random);
        compareNearEndings();
        compareIdeographs(random);
        Checks.finish();
    }

    /** All words of three letters, so that none is taken for one that says nothing. */
    private static void compareShortWords(Random random) {
        for (char a = 'a'; a <= 'z'; a++) {
            StringBuilder text = new StringBuilder();
            for (char b = 'a'; b <= 'z'; b++) {
                for (char c = 'a'; c <= 'z'; c++) {
                    text.append(a).append(b).append(c).append(' ');
                }
                text.append(a).append(b).append(' ').append(a).append(' ');
            }
            compareLarge(Checks.utf8(text.toString()), random);
        }
    }

    /** All endings, and all that are one letter off, behind stems of every m. */
    private static void compareNearEndings() {
        String[] stems = {"", "b", "tr", "ay", "ab", "hop", "abb", "abab", "ababb", "byab"};
        for (String ending : SecondProgram.endings()) {
            List<String> words = new ArrayList<>();
            for (String near : near(ending)) {
                for (String stem : stems) {
                    words.add(stem + near);
                }
            }
            for (int from = 0; from < words.size(); from += 20) {
                compare(Checks.utf8(String.join(" ", words.subList(from, Math.min(from + 20, words.size())))));
            }
        }
    }

    private static List<String> near(String ending) {
        List<String> near = new ArrayList<>();
        near.add(ending);
        for (int at = 0; at < ending.length(); at++) {
            String before = ending.substring(0, at);
            String behind = ending.substring(at + 1);
            near.add(before + behind);
            for (char c : "abeilnostuyz".toCharArray()) {
                near.add(before + c + behind);
                near.add(before + c + ending.charAt(at) + behind);
            }
        }
        return near;
    }

    private static void compareIdeographs(Random random) {
        for (int from = 0x4E00; from <= 0x9FFF; from += 2700) {
            StringBuilder text = new StringBuilder();
            for (int c = from; c < from + 2700 && c <= 0x9FFF; c++) {
                text.append((char) c);
            }
            compareLarge(Checks.utf8(text.toString()), random);
        }
    }

    private static String madeWord(Random random) {
        return joined(random, PARTS, 1 + random.nextInt(5));
    }

    private static String joined(Random random, String[] parts, int many) {
        StringBuilder text = new StringBuilder();
        for (int k = 0; k < many; k++) {
            text.append(parts[random.nextInt(parts.length)]);
        }
        return text.toString();
    }

    private static byte[] madeBytes(Random random, int many) {
        byte[] bytes = new byte[many];
        for (int k = 0; k < many; k++) {
            bytes[k] = (byte) BYTES[random.nextInt(BYTES.length)];
        }
        return bytes;
    }

    /** Long and short texts, one after the other: none may leave anything behind. */
    private static void compareInARow(Random random) {
        WordChain x = new WordChain();
        for (int text = 0; text < 4; text++) {
            compare(x, Checks.utf8(joined(random, SIGNS, random.nextInt(25))));
            compare(x, Checks.utf8(madeWord(random)));
            compare(x, madeBytes(random, random.nextInt(20)));
        }
    }

    private static void compare(byte[] bytes) {
        compare(new WordChain(), bytes);
    }

    private static void compare(WordChain x, byte[] bytes) {
        SecondProgram.Expected want = SecondProgram.expected(bytes);
        Checks.feed(x, bytes);
        x.cut();
        String name = show(bytes);
        compareCounts(name, x, want);
        for (int i = 0; i < want.tokens().size() && i < x.count(1); i++) {
            compareToken(name, x, want, i);
        }
    }

    /** Feeding takes some 410 of the 512 calls: a few TOKENS are asked for. */
    private static void compareLarge(byte[] bytes, Random random) {
        byte[] text = Arrays.copyOf(bytes, Math.min(bytes.length, 8192));
        SecondProgram.Expected want = SecondProgram.expected(text);
        WordChain x = Checks.cut(text);
        compareCounts("large", x, want);
        for (int k = 0; k < 6 && !want.tokens().isEmpty(); k++) {
            int i = random.nextInt(want.tokens().size());
            if (want.tokens().get(i).length() < 10) {
                compareToken("large", x, want, i);
            }
            Checks.due("large: token(" + i + ", 1)", x.token(i, 1), want.tokens().get(i).length());
        }
    }

    private static void compareCounts(String name, WordChain x, SecondProgram.Expected want) {
        Checks.due(name + ": TOKENS", x.count(1), want.tokens().size());
        Checks.due(name + ": WORDS", x.count(2), want.words());
        Checks.due(name + ": CHARACTERS", x.count(3), want.characters());
        Checks.due(name + ": CHARACTERS of TOKENS", x.count(4), String.join("", want.tokens()).length());
    }

    private static void compareToken(String name, WordChain x, SecondProgram.Expected want, int i) {
        String token = want.tokens().get(i);
        Checks.due(name + ": TOKEN " + i, Checks.word(x, i), token);
        Checks.due(name + ": POSITION of " + i, x.token(i, 0), want.positions().get(i));
        Checks.due(name + ": first of " + i, x.first(i), want.tokens().indexOf(token));
    }

    private static String show(byte[] bytes) {
        StringBuilder text = new StringBuilder();
        for (byte b : bytes) {
            text.append(b > 32 ? String.valueOf((char) b) : String.format("\\x%02x", b));
        }
        return text.toString();
    }
}
