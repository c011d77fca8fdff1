import java.io.ByteArrayOutputStream;
import java.nio.charset.StandardCharsets;
import java.util.Objects;

/** What the tests share: comparing answers, feeding texts, reading TOKENS. */
final class Checks {
    interface Call {
        int answer();
    }

    private static int made = 0;
    private static int wrong = 0;
    private static int sentences = 0;
    private static String sentence = "";

    private Checks() {
    }

    /** The sentence of the document that the checks from here on would find broken. */
    static void about(String words) {
        sentence = "[" + words + "] ";
        sentences++;
    }

    static void due(String what, Object got, Object want) {
        made++;
        if (!Objects.equals(got, want)) {
            wrong++;
            System.out.println(sentence + what + ": got " + got + ", due is " + want);
        }
    }

    static void refused(String what, Class<? extends RuntimeException> want, Call call) {
        String got;
        try {
            got = "answer " + call.answer();
        } catch (RuntimeException e) {
            got = e.getClass().getName();
        }
        due(what, got, want.getName());
    }

    static void finish() {
        System.out.println(sentences + " sentences, " + made + " checks, " + wrong + " wrong");
        if (wrong != 0 || made == 0) {
            System.exit(1);
        }
    }

    static byte[] utf8(String text) {
        return text.getBytes(StandardCharsets.UTF_8);
    }

    static byte[] bytes(int... values) {
        ByteArrayOutputStream out = new ByteArrayOutputStream();
        for (int value : values) {
            out.write(value);
        }
        return out.toByteArray();
    }

    /** The odd rest goes first: behind a nearly full INPUT there is no room for its padding. */
    static void feed(WordChain x, byte[] text) {
        int rest = text.length % 20;
        if (rest != 0) {
            feedTwenty(x, text, 0, rest);
            x.end(rest);
        }
        for (int at = rest; at < text.length; at += 20) {
            feedTwenty(x, text, at, at + 20);
        }
    }

    private static void feedTwenty(WordChain x, byte[] text, int from, int to) {
        int[] packed = new int[5];
        for (int k = 0; k < 20; k++) {
            int b = from + k < to ? text[from + k] & 0xFF : 0;
            packed[k / 4] = packed[k / 4] << 8 | b;
        }
        x.feed(packed[0], packed[1], packed[2], packed[3], packed[4]);
    }

    static WordChain fed(byte[] text) {
        WordChain x = new WordChain();
        feed(x, text);
        return x;
    }

    static WordChain cut(byte[] text) {
        WordChain x = fed(text);
        x.cut();
        return x;
    }

    static WordChain cut(String text) {
        return cut(utf8(text));
    }

    static String word(WordChain x, int i) {
        StringBuilder word = new StringBuilder();
        int length = x.token(i, 1);
        for (int k = 0; k < length; k++) {
            word.appendCodePoint(x.character(i, k));
        }
        return word.toString();
    }

    /** All TOKENS as POSITION:CHARACTERS, one space between two. */
    static String tokens(WordChain x) {
        StringBuilder all = new StringBuilder();
        for (int i = 0; i < x.count(1); i++) {
            all.append(i == 0 ? "" : " ").append(x.token(i, 0)).append(':').append(word(x, i));
        }
        return all.toString();
    }

    static String counts(WordChain x) {
        return x.count(0) + " " + x.count(1) + " " + x.count(2) + " " + x.count(3) + " " + x.count(4);
    }

    static void dueTokens(String text, String want) {
        due("tokens of <" + text + ">", tokens(cut(text)), want);
    }
}
