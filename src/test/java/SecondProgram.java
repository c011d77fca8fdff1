import java.nio.ByteBuffer;
import java.nio.CharBuffer;
import java.nio.charset.CharacterCodingException;
import java.nio.charset.StandardCharsets;
import java.util.ArrayList;
import java.util.List;
import java.util.Set;
import java.util.regex.Matcher;
import java.util.regex.Pattern;

/** What is due for a text, found in another way: by patterns over Strings. */
final class SecondProgram {
    private static final String LETTER = "[A-Za-z\u00c0-\u00d6\u00d8-\u00f6\u00f8-\u024f\u0391-\u04ff]";
    private static final String INNER = "(?:" + LETTER + "|[0-9_])";
    private static final Pattern SPAN = Pattern.compile(
        INNER + "(?:" + INNER
        + "|(?<=" + LETTER + ")[\u00b7'.\u2019](?=" + LETTER + ")"
        + "|(?<=[0-9])[,;'.\u2019](?=[0-9]))*+|[\u4e00-\u9fff]");
    private static final Pattern WORD_MAKER = Pattern.compile(LETTER + "|[0-9\u4e00-\u9fff]");
    private static final Set<String> SILENT = Set.of((
        "a an and are as at be but by for if in into is it no not of on or such that the their"
        + " then there these they this to was will with").split(" "));

    private static final String[] STEP_2 = {
        "ational ate", "tional tion", "enci ence", "anci ance", "izer ize", "abli able", "alli al",
        "entli ent", "eli e", "ousli ous", "ization ize", "ation ate", "ator ate", "alism al",
        "iveness ive", "fulness ful", "ousness ous", "aliti al", "iviti ive", "biliti ble"};
    private static final String[] STEP_3 = {
        "icate ic", "ative", "alize al", "iciti ic", "ical ic", "ful", "ness"};
    private static final String[] STEP_4 = (
        "al ance ence er ic able ible ant ement ment ent ion ou ism ate iti ous ive ize").split(" ");

    record Expected(int characters, int words, List<Integer> positions, List<String> tokens) {
    }

    private SecondProgram() {
    }

    static List<String> endings() {
        List<String> all = new ArrayList<>(List.of("sses", "ies", "ss", "s", "eed", "ed", "ing", "y", "e", "ll"));
        all.addAll(List.of("ated", "bling", "izing", "pped", "lled"));
        for (String[] list : List.of(STEP_2, STEP_3, STEP_4)) {
            for (String entry : list) {
                all.add(entry.split(" ")[0]);
            }
        }
        return all;
    }

    static Expected expected(byte[] bytes) {
        StringBuilder text = new StringBuilder();
        int characters = decode(bytes, text);
        List<Integer> positions = new ArrayList<>();
        List<String> tokens = new ArrayList<>();
        int words = 0;
        Matcher span = SPAN.matcher(text);
        while (span.find()) {
            String whole = span.group();
            if (!WORD_MAKER.matcher(whole).find()) {
                continue;
            }
            for (int from = 0; from < whole.length(); from += 255) {
                String token = tokenOf(whole.substring(from, Math.min(from + 255, whole.length())));
                if (!SILENT.contains(token)) {
                    positions.add(words);
                    tokens.add(token.matches("[a-z]{3,}") ? stem(token) : token);
                }
                words++;
            }
        }
        return new Expected(characters, words, positions, tokens);
    }

    private static int decode(byte[] bytes, StringBuilder text) {
        int characters = 0;
        int at = 0;
        while (at < bytes.length) {
            int size = 1;
            String found = "\ufffd";
            for (int tried = 1; tried <= 4 && at + tried <= bytes.length; tried++) {
                String decoded = strictly(bytes, at, tried);
                if (decoded != null) {
                    size = tried;
                    found = decoded;
                    break;
                }
            }
            text.append(found);
            characters++;
            at += size;
        }
        return characters;
    }

    private static String strictly(byte[] bytes, int at, int size) {
        try {
            CharBuffer decoded = StandardCharsets.UTF_8.newDecoder().decode(ByteBuffer.wrap(bytes, at, size));
            return decoded.toString();
        } catch (CharacterCodingException e) {
            return null;
        }
    }

    private static String tokenOf(String word) {
        String bare = word.matches("(?s)..*['\u2019][sS]") ? word.substring(0, word.length() - 2) : word;
        StringBuilder lowered = new StringBuilder();
        for (char c : bare.toCharArray()) {
            boolean isLowered = String.valueOf(c).matches(
                "[A-Z\u00c0-\u00d6\u00d8-\u00de\u0391-\u03a1\u03a3-\u03ab\u0400-\u042f]");
            lowered.append(isLowered ? Character.toLowerCase(c) : c);
        }
        return lowered.toString();
    }

    /** The word with v for each vowel and c for each consonant. */
    private static String shape(String word) {
        String shape = "";
        for (char c : word.toCharArray()) {
            boolean isVowel = "aeiou".indexOf(c) >= 0 || c == 'y' && shape.endsWith("c");
            shape += isVowel ? "v" : "c";
        }
        return shape;
    }

    private static int m(String stem) {
        return shape(stem).split("vc", -1).length - 1;
    }

    private static boolean isCvc(String stem) {
        return shape(stem).endsWith("cvc") && !stem.matches(".*[wxy]");
    }

    private static String stem(String word) {
        return step5(step4(step(step(step1(word), STEP_2, 0), STEP_3, 0)));
    }

    private static String step1(String word) {
        String w = word;
        if (w.endsWith("sses") || w.endsWith("ies")) {
            w = w.substring(0, w.length() - 2);
        } else if (w.endsWith("s") && !w.endsWith("ss")) {
            w = w.substring(0, w.length() - 1);
        }
        Matcher ending = Pattern.compile("^(.*?)(eed|ed|ing)$").matcher(w);
        if (ending.find()) {
            String stem = ending.group(1);
            if (ending.group(2).equals("eed")) {
                w = m(stem) > 0 ? stem + "ee" : w;
            } else if (shape(stem).contains("v")) {
                w = mended(stem);
            }
        }
        boolean isY = w.endsWith("y") && shape(w.substring(0, w.length() - 1)).contains("v");
        return isY ? w.substring(0, w.length() - 1) + "i" : w;
    }

    private static String mended(String stem) {
        if (stem.matches(".*(at|bl|iz)")) {
            return stem + "e";
        }
        if (stem.matches(".*([^lsz])\\1") && shape(stem).endsWith("c")) {
            return stem.substring(0, stem.length() - 1);
        }
        return m(stem) == 1 && isCvc(stem) ? stem + "e" : stem;
    }

    private static String step(String word, String[] list, int bound) {
        String[] best = {""};
        for (String entry : list) {
            String[] pair = entry.split(" ");
            if (word.endsWith(pair[0]) && pair[0].length() > best[0].length()) {
                best = pair;
            }
        }
        String stem = word.substring(0, word.length() - best[0].length());
        if (best[0].isEmpty() || m(stem) <= bound || best[0].equals("ion") && !stem.matches(".*[st]")) {
            return word;
        }
        return best.length == 2 ? stem + best[1] : stem;
    }

    private static String step4(String word) {
        return step(word, STEP_4, 1);
    }

    private static String step5(String word) {
        String w = word;
        if (w.endsWith("e")) {
            String stem = w.substring(0, w.length() - 1);
            w = m(stem) > 1 || m(stem) == 1 && !isCvc(stem) ? stem : w;
        }
        return w.endsWith("ll") && m(w) > 1 ? w.substring(0, w.length() - 1) : w;
    }
}
