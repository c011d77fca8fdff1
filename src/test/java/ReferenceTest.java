import java.nio.ByteBuffer;
import java.nio.CharBuffer;
import java.nio.charset.CharacterCodingException;
import java.nio.charset.StandardCharsets;
import java.util.ArrayList;
import java.util.Arrays;
import java.util.List;
import java.util.Random;
import java.util.Set;
import java.util.regex.Matcher;
import java.util.regex.Pattern;

/** Compares whole answers with a second program, by patterns over Strings, on made-up texts. */
final class ReferenceTest {
    private static final String LETTER = "[A-Za-z\u00c0-\u00d6\u00d8-\u00f6\u00f8-\u024f\u0391-\u04ff]";
    private static final String INNER = "(?:" + LETTER + "|[0-9_])";
    private static final Pattern SPAN = Pattern.compile(
        INNER + "(?:" + INNER
        + "|(?<=" + LETTER + ")[\u00b7'.\u2019](?=" + LETTER + ")"
        + "|(?<=[0-9])[,;'.\u2019](?=[0-9]))*+|[\u4e00-\u9fff]");
    private static final Pattern WORD_MAKER = Pattern.compile(LETTER + "|[0-9\u4e00-\u9fff]");
    private static final Set<String> SILENT = Set.of((
        "a an and are as at be but by for if in into is it no not of on or such that the their"
        + " then there these they this to was will with").split(" "));

    private static final String[] STEP_2 = {
        "ational ate", "tional tion", "enci ence", "anci ance", "izer ize", "abli able", "alli al",
        "entli ent", "eli e", "ousli ous", "ization ize", "ation ate", "ator ate", "alism al",
        "iveness ive", "fulness ful", "ousness ous", "aliti al", "iviti ive", "biliti ble"};
    private static final String[] STEP_3 = {
        "icate ic", "ative", "alize al", "iciti ic", "ical ic", "ful", "ness"};
    private static final String[] STEP_4 = (
        "al ance ence er ic able ible ant ement ment ent ion ou ism ate iti ous ive ize").split(" ");

    private static final String[] PARTS = {
        "s", "es", "ies", "sses", "ed", "eed", "ing", "y", "at", "bl", "iz", "ll", "tt", "zz", "ss", "yy",
        "ational", "tional", "enci", "anci", "izer", "abli", "alli", "entli", "eli", "ousli", "ization",
        "ation", "ator", "alism", "iveness", "fulness", "ousness", "aliti", "iviti", "biliti", "icate",
        "ative", "alize", "iciti", "ical", "ful", "ness", "al", "ance", "ence", "er", "ic", "able",
        "ible", "ant", "ement", "ment", "ent", "ion", "sion", "tion", "ou", "ism", "ate", "iti", "ous",
        "ive", "ize", "e", "le", "a", "o", "u", "i", "b", "c", "d", "f", "l", "m", "n", "p", "r", "t",
        "w", "x", "z", "hop", "the", "it"};
    private static final String[] SIGNS = {
        "a", "s", "S", "Z", "x", "\u00d7", "\u00f7", "\u00c9", "\u0178", "\u03a3", "\u03a2", "\u0416",
        "\u0401", "0", "9", "_", "_", "\u00b7", ",", ";", "'", "'s", ".", "\u2019", "\u2019s", "\u4e2d",
        " ", " ", "-", "\n", "the", "To", "\ufffd", "\ud83d\ude00", "\u0000"};
    private static final int[] BYTES = {
        'x', 's', ' ', 0x80, 0x8F, 0x90, 0x9F, 0xA0, 0xA9, 0xB7, 0xBF, 0xC0, 0xC1, 0xC2, 0xC3, 0xCF, 0xD0,
        0xDF, 0xE0, 0xE2, 0xE4, 0xED, 0xEF, 0xF0, 0xF1, 0xF3, 0xF4, 0xF5, 0xFF};

    private record Expected(int characters, int words, List<Integer> positions, List<String> tokens) {
    }

    public static void main(String[] args) {
        Random random = new Random(20261115);
        for (int round = 0; round < 30000; round++) {
            compare(Checks.utf8(madeWord(random)));
            compare(Checks.utf8(joined(random, SIGNS, 1 + random.nextInt(25))));
            compare(madeBytes(random, 1 + random.nextInt(40)));
        }
        for (int round = 0; round < 40; round++) {
            compareLarge(Arrays.copyOf(Checks.utf8(joined(random, SIGNS, 8192)), 8192 - round), random);
            compareLarge(madeBytes(random, 8192 - round), random);
            compareLarge(Checks.utf8(joined(random, new String[] {"x", "_", "1", "'s"}, 4000)), random);
        }
        compareShortWords(random);
        compareIdeographs(random);
        Checks.finish();
    }

    /** All words of three letters, so that none is taken for one that says nothing. */
    private static void compareShortWords(Random random) {
        for (char a = 'a'; a <= 'z'; a++) {
            StringBuilder text = new StringBuilder();
            for (char b = 'a'; b <= 'z'; b++) {
                for (char c = 'a'; c <= 'z'; c++) {
                    text.append(a).append(b).append(c).append(' ');
                }
                text.append(a).append(b).append(' ').append(a).append(' ');
            }
            compareLarge(Checks.utf8(text.toString()), random);
        }
    }

    private static void compareIdeographs(Random random) {
        for (int from = 0x4E00; from <= 0x9FFF; from += 2700) {
            StringBuilder text = new StringBuilder();
            for (int c = from; c < from + 2700 && c <= 0x9FFF; c++) {
                text.append((char) c);
            }
            compareLarge(Checks.utf8(text.toString()), random);
        }
    }

    private static String madeWord(Random random) {
        return joined(random, PARTS, 1 + random.nextInt(5));
    }

    private static String joined(Random random, String[] parts, int many) {
        StringBuilder text = new StringBuilder();
        for (int k = 0; k < many; k++) {
            text.append(parts[random.nextInt(parts.length)]);
        }
        return text.toString();
    }

    private static byte[] madeBytes(Random random, int many) {
        byte[] bytes = new byte[many];
        for (int k = 0; k < many; k++) {
            bytes[k] = (byte) BYTES[random.nextInt(BYTES.length)];
        }
        return bytes;
    }

    private static void compare(byte[] bytes) {
        Expected want = expected(bytes);
        WordChain x = Checks.cut(bytes);
        String name = show(bytes);
        compareCounts(name, x, want);
        for (int i = 0; i < want.tokens.size() && i < x.count(1); i++) {
            compareToken(name, x, want, i);
        }
    }

    /** Feeding takes some 410 of the 512 calls: a few TOKENS are asked for. */
    private static void compareLarge(byte[] bytes, Random random) {
        byte[] text = Arrays.copyOf(bytes, Math.min(bytes.length, 8192));
        Expected want = expected(text);
        WordChain x = Checks.cut(text);
        compareCounts("large", x, want);
        for (int k = 0; k < 6 && !want.tokens.isEmpty(); k++) {
            int i = random.nextInt(want.tokens.size());
            if (want.tokens.get(i).length() < 10) {
                compareToken("large", x, want, i);
            }
            Checks.due("large: token(" + i + ", 1)", x.token(i, 1), want.tokens.get(i).length());
        }
    }

    private static void compareCounts(String name, WordChain x, Expected want) {
        Checks.due(name + ": TOKENS", x.count(1), want.tokens.size());
        Checks.due(name + ": WORDS", x.count(2), want.words);
        Checks.due(name + ": CHARACTERS", x.count(3), want.characters);
        Checks.due(name + ": CHARACTERS of TOKENS", x.count(4), String.join("", want.tokens).length());
    }

    private static void compareToken(String name, WordChain x, Expected want, int i) {
        String token = want.tokens.get(i);
        Checks.due(name + ": TOKEN " + i, Checks.word(x, i), token);
        Checks.due(name + ": POSITION of " + i, x.token(i, 0), want.positions.get(i));
        Checks.due(name + ": first of " + i, x.first(i), want.tokens.indexOf(token));
    }

    private static String show(byte[] bytes) {
        StringBuilder text = new StringBuilder();
        for (byte b : bytes) {
            text.append(b > 32 ? String.valueOf((char) b) : String.format("\\x%02x", b));
        }
        return text.toString();
    }

    private static Expected expected(byte[] bytes) {
        StringBuilder text = new StringBuilder();
        int characters = decode(bytes, text);
        List<Integer> positions = new ArrayList<>();
        List<String> tokens = new ArrayList<>();
        int words = 0;
        Matcher span = SPAN.matcher(text);
        while (span.find()) {
            String whole = span.group();
            if (!WORD_MAKER.matcher(whole).find()) {
                continue;
            }
            for (int from = 0; from < whole.length(); from += 255) {
                String token = tokenOf(whole.substring(from, Math.min(from + 255, whole.length())));
                if (!SILENT.contains(token)) {
                    positions.add(words);
                    tokens.add(token.matches("[a-z]{3,}") ? stem(token) : token);
                }
                words++;
            }
        }
        return new Expected(characters, words, positions, tokens);
    }

    private static int decode(byte[] bytes, StringBuilder text) {
        int characters = 0;
        int at = 0;
        while (at < bytes.length) {
            int size = 1;
            String found = "\ufffd";
            for (int tried = 1; tried <= 4 && at + tried <= bytes.length; tried++) {
                String decoded = strictly(bytes, at, tried);
                if (decoded != null) {
                    size = tried;
                    found = decoded;
                    break;
                }
            }
            text.append(found);
            characters++;
            at += size;
        }
        return characters;
    }

    private static String strictly(byte[] bytes, int at, int size) {
        try {
            CharBuffer decoded = StandardCharsets.UTF_8.newDecoder().decode(ByteBuffer.wrap(bytes, at, size));
            return decoded.toString();
        } catch (CharacterCodingException e) {
            return null;
        }
    }

    private static String tokenOf(String word) {
        String bare = word.matches("(?s)..*['\u2019][sS]") ? word.substring(0, word.length() - 2) : word;
        StringBuilder lowered = new StringBuilder();
        for (char c : bare.toCharArray()) {
            boolean isLowered = String.valueOf(c).matches(
                "[A-Z\u00c0-\u00d6\u00d8-\u00de\u0391-\u03a1\u03a3-\u03ab\u0400-\u042f]");
            lowered.append(isLowered ? Character.toLowerCase(c) : c);
        }
        return lowered.toString();
    }

    /** The word with v for each vowel and c for each consonant. */
    private static String shape(String word) {
        String shape = "";
        for (char c : word.toCharArray()) {
            boolean isVowel = "aeiou".indexOf(c) >= 0 || c == 'y' && shape.endsWith("c");
            shape += isVowel ? "v" : "c";
        }
        return shape;
    }

    private static int m(String stem) {
        return shape(stem).split("vc", -1).length - 1;
    }

    private static boolean isCvc(String stem) {
        return shape(stem).endsWith("cvc") && !stem.matches(".*[wxy]");
    }

    private static String stem(String word) {
        return step5(step4(step(step(step1(word), STEP_2, 0), STEP_3, 0)));
    }

    private static String step1(String word) {
        String w = word;
        if (w.endsWith("sses") || w.endsWith("ies")) {
            w = w.substring(0, w.length() - 2);
        } else if (w.endsWith("s") && !w.endsWith("ss")) {
            w = w.substring(0, w.length() - 1);
        }
        Matcher ending = Pattern.compile("^(.*?)(eed|ed|ing)$").matcher(w);
        if (ending.find()) {
            String stem = ending.group(1);
            if (ending.group(2).equals("eed")) {
                w = m(stem) > 0 ? stem + "ee" : w;
            } else if (shape(stem).contains("v")) {
                w = mended(stem);
            }
        }
        boolean isY = w.endsWith("y") && shape(w.substring(0, w.length() - 1)).contains("v");
        return isY ? w.substring(0, w.length() - 1) + "i" : w;
    }

    private static String mended(String stem) {
        if (stem.matches(".*(at|bl|iz)")) {
            return stem + "e";
        }
        if (stem.matches(".*([^lsz])\\1") && shape(stem).endsWith("c")) {
            return stem.substring(0, stem.length() - 1);
        }
        return m(stem) == 1 && isCvc(stem) ? stem + "e" : stem;
    }

    private static String step(String word, String[] list, int bound) {
        String[] best = {""};
        for (String entry : list) {
            String[] pair = entry.split(" ");
            if (word.endsWith(pair[0]) && pair[0].length() > best[0].length()) {
                best = pair;
            }
        }
        String stem = word.substring(0, word.length() - best[0].length());
        if (best[0].isEmpty() || m(stem) <= bound || best[0].equals("ion") && !stem.matches(".*[st]")) {
            return word;
        }
        return best.length == 2 ? stem + best[1] : stem;
    }

    private static String step4(String word) {
        return step(word, STEP_4, 1);
    }

    private static String step5(String word) {
        String w = word;
        if (w.endsWith("e")) {
            String stem = w.substring(0, w.length() - 1);
            w = m(stem) > 1 || m(stem) == 1 && !isCvc(stem) ? stem : w;
        }
        return w.endsWith("ll") && m(w) > 1 ? w.substring(0, w.length() - 1) : w;
    }
}
