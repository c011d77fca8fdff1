import java.util.NoSuchElementException;

/** Cuts a text into the words that a search would look for. */
public final class WordChain {
    private static final int MOST_BYTES = 8192;
    private static final int BYTES_OF_A_FEED = 20;
    private static final int LONGEST_WORD = 255;
    private static final int LAST_CHARACTER = 0x10FFFF;

    private final byte[] input = new byte[MOST_BYTES];
    private int inputLength = 0;
    private final Text text = new Text(MOST_BYTES);
    private final SilentWords silentWords = new SilentWords();
    private final Stemmer stemmer = new Stemmer(LONGEST_WORD);
    private final Tokens tokens = new Tokens(MOST_BYTES);
    private int words = 0;

    public WordChain() {
    }

    public int feed(int a, int b, int c, int d, int e) throws IndexOutOfBoundsException {
        if (inputLength + BYTES_OF_A_FEED > MOST_BYTES) {
            throw new IndexOutOfBoundsException("INPUT is full");
        }
        append(a);
        append(b);
        append(c);
        append(d);
        append(e);
        return inputLength;
    }

    public int end(int n) throws IllegalArgumentException {
        if (n < 0 || n >= BYTES_OF_A_FEED || BYTES_OF_A_FEED - n > inputLength) {
            throw new IllegalArgumentException("as many bytes can't go");
        }
        inputLength -= BYTES_OF_A_FEED - n;
        return inputLength;
    }

    public int cut() {
        text.read(input, inputLength);
        inputLength = 0;
        tokens.clear();
        words = 0;
        int at = 0;
        while (at < text.length) {
            int spanEnd = text.spanEnd(at);
            if (text.isWord(at, spanEnd)) {
                takeWords(at, spanEnd);
            }
            at = Math.max(at + 1, spanEnd);
        }
        return tokens.size;
    }

    public int token(int i, int what) throws IllegalArgumentException, NoSuchElementException {
        if (what != 0 && what != 1) {
            throw new IllegalArgumentException("what is 0 or 1");
        }
        if (!tokens.has(i)) {
            throw new NoSuchElementException("no such TOKEN");
        }
        return what == 0 ? tokens.positions[i] : tokens.lengthOf(i);
    }

    public int character(int i, int k) throws NoSuchElementException {
        if (!tokens.has(i) || k < 0 || k >= tokens.lengthOf(i)) {
            throw new NoSuchElementException("no such CHARACTER");
        }
        return tokens.characters[tokens.starts[i] + k];
    }

    public int first(int i) throws NoSuchElementException {
        if (!tokens.has(i)) {
            throw new NoSuchElementException("no such TOKEN");
        }
        return tokens.firstLike(i);
    }

    public int sort(int c) throws IllegalArgumentException {
        if (c < 0 || c > LAST_CHARACTER) {
            throw new IllegalArgumentException("no CHARACTER");
        }
        return Sorts.of(c);
    }

    public int count(int what) {
        switch (what) {
            case 0:
                return inputLength;
            case 1:
                return tokens.size;
            case 2:
                return words;
            case 3:
                return text.length;
            case 4:
                return tokens.starts[tokens.size];
            default:
                return -1;
        }
    }

    private void append(int fourBytes) {
        for (int shift = 24; shift >= 0; shift -= 8) {
            input[inputLength] = (byte) (fourBytes >>> shift);
            inputLength++;
        }
    }

    private void takeWords(int from, int end) {
        Word word = stemmer.word;
        for (int at = from; at < end; at += LONGEST_WORD) {
            word.take(text.characters, at, Math.min(LONGEST_WORD, end - at));
            word.dropOwnersEnding();
            word.lower();
            if (!silentWords.have(word)) {
                stemmer.stemIfFit();
                tokens.add(word, words);
            }
            words++;
        }
    }

    /** What a CHARACTER is, as the document numbers it. */
    private static final class Sorts {
        static final int NOTHING = 0;
        static final int LETTER = 1;
        static final int DIGIT = 2;
        static final int JOINER = 3;
        static final int BETWEEN_LETTERS = 4;
        static final int BETWEEN_DIGITS = 5;
        static final int BETWEEN_BOTH = 6;
        static final int IDEOGRAPH = 7;

        static int of(int c) {
            if (isLetter(c)) {
                return LETTER;
            }
            if (c >= '0' && c <= '9') {
                return DIGIT;
            }
            if (c >= 0x4E00 && c <= 0x9FFF) {
                return IDEOGRAPH;
            }
            switch (c) {
                case '_':
                    return JOINER;
                case 0x00B7:
                    return BETWEEN_LETTERS;
                case ',':
                case ';':
                    return BETWEEN_DIGITS;
                case '\'':
                case '.':
                case 0x2019:
                    return BETWEEN_BOTH;
                default:
                    return NOTHING;
            }
        }

        /** Whether it belongs together with any other of these right beside it. */
        static boolean isInner(int sort) {
            return sort == LETTER || sort == DIGIT || sort == JOINER;
        }

        /** Whether the middle one ties two outer ones of the same sort together. */
        static boolean ties(int middle, int outer) {
            if (outer == LETTER) {
                return middle == BETWEEN_LETTERS || middle == BETWEEN_BOTH;
            }
            return outer == DIGIT && (middle == BETWEEN_DIGITS || middle == BETWEEN_BOTH);
        }

        private static boolean isLetter(int c) {
            return c >= 'a' && c <= 'z'
                || c >= 'A' && c <= 'Z'
                || c >= 0x00C0 && c <= 0x024F && c != 0x00D7 && c != 0x00F7
                || c >= 0x0391 && c <= 0x03FF
                || c >= 0x0400 && c <= 0x04FF;
        }
    }

    /** Well-formed sequences as Unicode's table of them has it. */
    private static final class Utf8 {
        static final int REPLACEMENT = 0xFFFD;

        /** How many bytes the sequence has that begins there; 0 if no well-formed one does. */
        static int sizeAt(byte[] bytes, int at, int end) {
            int lead = bytes[at] & 0xFF;
            int size = sizeByLead(lead);
            if (size > end - at) {
                return 0;
            }
            if (size > 1 && !isSecond(lead, bytes[at + 1] & 0xFF)) {
                return 0;
            }
            for (int k = 2; k < size; k++) {
                if ((bytes[at + k] & 0xC0) != 0x80) {
                    return 0;
                }
            }
            return size;
        }

        static int valueAt(byte[] bytes, int at, int size) {
            if (size == 1) {
                return bytes[at];
            }
            int value = bytes[at] & (0xFF >> (size + 1));
            for (int k = 1; k < size; k++) {
                value = value << 6 | bytes[at + k] & 0x3F;
            }
            return value;
        }

        private static int sizeByLead(int lead) {
            if (lead < 0x80) {
                return 1;
            }
            if (lead < 0xC2 || lead > 0xF4) {
                return 0;
            }
            return lead < 0xE0 ? 2 : lead < 0xF0 ? 3 : 4;
        }

        /** The second byte alone decides on overlong ones, surrogates and what is too high. */
        private static boolean isSecond(int lead, int second) {
            int lowest = lead == 0xE0 ? 0xA0 : lead == 0xF0 ? 0x90 : 0x80;
            int highest = lead == 0xED ? 0x9F : lead == 0xF4 ? 0x8F : 0xBF;
            return second >= lowest && second <= highest;
        }
    }

    /** The CHARACTERS of the latest cut, and where its WORDS begin and end. */
    private static final class Text {
        final int[] characters;
        int length = 0;

        Text(int most) {
            characters = new int[most];
        }

        void read(byte[] bytes, int end) {
            length = 0;
            int at = 0;
            while (at < end) {
                int size = Utf8.sizeAt(bytes, at, end);
                characters[length] = size == 0 ? Utf8.REPLACEMENT : Utf8.valueAt(bytes, at, size);
                length++;
                at += Math.max(1, size);
            }
        }

        /** The end of all that belongs together from there on. */
        int spanEnd(int from) {
            int end = from + 1;
            if (!Sorts.isInner(sortAt(from))) {
                return end;
            }
            while (end < length) {
                if (Sorts.isInner(sortAt(end))) {
                    end++;
                } else if (isTie(end)) {
                    end += 2;
                } else {
                    return end;
                }
            }
            return end;
        }

        boolean isWord(int from, int end) {
            for (int at = from; at < end; at++) {
                int sort = sortAt(at);
                if (sort == Sorts.LETTER || sort == Sorts.DIGIT || sort == Sorts.IDEOGRAPH) {
                    return true;
                }
            }
            return false;
        }

        private boolean isTie(int middle) {
            if (middle < 1 || middle + 1 >= length) {
                return false;
            }
            int outer = sortAt(middle - 1);
            return sortAt(middle + 1) == outer && Sorts.ties(sortAt(middle), outer);
        }

        private int sortAt(int at) {
            return Sorts.of(characters[at]);
        }
    }

    /** The one WORD that is at work; there is one row for all of them. */
    private static final class Word {
        final int[] characters;
        int length = 0;

        Word(int longest) {
            characters = new int[longest];
        }

        void take(int[] row, int from, int size) {
            System.arraycopy(row, from, characters, 0, size);
            length = size;
        }

        void dropOwnersEnding() {
            if (length <= 2) {
                return;
            }
            int mark = characters[length - 2];
            int last = characters[length - 1];
            if ((mark == '\'' || mark == 0x2019) && (last == 's' || last == 'S')) {
                length -= 2;
            }
        }

        void lower() {
            for (int at = 0; at < length; at++) {
                characters[at] = lowered(characters[at]);
            }
        }

        boolean isSmallLetters() {
            for (int at = 0; at < length; at++) {
                if (characters[at] < 'a' || characters[at] > 'z') {
                    return false;
                }
            }
            return true;
        }

        boolean endsWith(String ending) {
            int from = length - ending.length();
            if (from < 0) {
                return false;
            }
            for (int k = ending.length() - 1; k >= 0; k--) {
                if (characters[from + k] != ending.charAt(k)) {
                    return false;
                }
            }
            return true;
        }

        void append(String more) {
            for (int k = 0; k < more.length() && length < characters.length; k++) {
                characters[length] = more.charAt(k);
                length++;
            }
        }

        private static int lowered(int c) {
            if (c >= 'A' && c <= 'Z'
                || c >= 0x00C0 && c <= 0x00DE && c != 0x00D7
                || c >= 0x0391 && c <= 0x03AB && c != 0x03A2
                || c >= 0x0410 && c <= 0x042F) {
                return c + 32;
            }
            return c >= 0x0400 && c <= 0x040F ? c + 80 : c;
        }
    }

    /** The words that say nothing, each as one number: so a look-up compares no texts. */
    private static final class SilentWords {
        private static final String LIST =
            "a an and are as at be but by for if in into is it no not of on or such that the their then there these they this to was will with ";
        private static final int SIZE = 33;
        private static final int LONGEST = 5;

        private final int[] keys = new int[SIZE];

        SilentWords() {
            int word = 0;
            int key = 0;
            for (int at = 0; at < LIST.length() && word < SIZE; at++) {
                if (LIST.charAt(at) == ' ') {
                    keys[word] = key;
                    word++;
                    key = 0;
                } else {
                    key = withLetter(key, LIST.charAt(at));
                }
            }
        }

        boolean have(Word word) {
            if (word.length > LONGEST || !word.isSmallLetters()) {
                return false;
            }
            int key = 0;
            for (int at = 0; at < word.length; at++) {
                key = withLetter(key, word.characters[at]);
            }
            for (int at = 0; at < SIZE; at++) {
                if (keys[at] == key) {
                    return true;
                }
            }
            return false;
        }

        /** Letters count from 1, so that words of different lengths differ. */
        private static int withLetter(int key, int letter) {
            return key * 32 + letter - 'a' + 1;
        }
    }

    /** An ending that a step of the stemming looks for, and what takes its place. */
    private static final class Ending {
        final String text;
        final String substitute;

        Ending(String text, String substitute) {
            this.text = text;
            this.substitute = substitute;
        }
    }

    /** The WORD that is at work, and the steps that stem it. */
    private static final class Stemmer {
        final Word word;
        private final boolean[] vowels;
        private final Ending[] endings1a = {
            new Ending("sses", "ss"), new Ending("ies", "i"), new Ending("ss", "ss"),
            new Ending("s", "")
        };
        private final Ending[] endings1b = {
            new Ending("eed", "ee"), new Ending("ed", ""), new Ending("ing", "")
        };
        private final Ending[] endings2 = {
            new Ending("ational", "ate"), new Ending("tional", "tion"), new Ending("enci", "ence"),
            new Ending("anci", "ance"), new Ending("izer", "ize"), new Ending("abli", "able"),
            new Ending("alli", "al"), new Ending("entli", "ent"), new Ending("eli", "e"),
            new Ending("ousli", "ous"), new Ending("ization", "ize"), new Ending("ation", "ate"),
            new Ending("ator", "ate"), new Ending("alism", "al"), new Ending("iveness", "ive"),
            new Ending("fulness", "ful"), new Ending("ousness", "ous"), new Ending("aliti", "al"),
            new Ending("iviti", "ive"), new Ending("biliti", "ble")
        };
        private final Ending[] endings3 = {
            new Ending("icate", "ic"), new Ending("ative", ""), new Ending("alize", "al"),
            new Ending("iciti", "ic"), new Ending("ical", "ic"), new Ending("ful", ""),
            new Ending("ness", "")
        };
        private final Ending[] endings4 = {
            new Ending("al", ""), new Ending("ance", ""), new Ending("ence", ""),
            new Ending("er", ""), new Ending("ic", ""), new Ending("able", ""),
            new Ending("ible", ""), new Ending("ant", ""), new Ending("ement", ""),
            new Ending("ment", ""), new Ending("ent", ""), new Ending("ion", ""),
            new Ending("ou", ""), new Ending("ism", ""), new Ending("ate", ""),
            new Ending("iti", ""), new Ending("ous", ""), new Ending("ive", ""),
            new Ending("ize", "")
        };

        Stemmer(int longest) {
            word = new Word(longest);
            vowels = new boolean[longest];
        }

        void stemIfFit() {
            if (word.length <= 2 || !word.isSmallLetters()) {
                return;
            }
            markVowels();
            step1a();
            step1b();
            step1c();
            replaceIfAbove(endings2, 0);
            replaceIfAbove(endings3, 0);
            step4();
            step5a();
            step5b();
        }

        private void step1a() {
            Ending ending = longest(endings1a);
            if (ending != null) {
                become(stemBefore(ending), ending.substitute);
            }
        }

        private void step1b() {
            Ending ending = longest(endings1b);
            if (ending == null) {
                return;
            }
            int stem = stemBefore(ending);
            if (ending.text.equals("eed")) {
                if (measure(stem) > 0) {
                    become(stem, ending.substitute);
                }
            } else if (hasVowel(stem)) {
                become(stem, ending.substitute);
                mendAfter1b();
            }
        }

        private void mendAfter1b() {
            if (word.endsWith("at") || word.endsWith("bl") || word.endsWith("iz")) {
                become(word.length, "e");
            } else if (isDouble() && !word.endsWith("l") && !word.endsWith("s") && !word.endsWith("z")) {
                become(word.length - 1, "");
            } else if (measure(word.length) == 1 && isCvc(word.length)) {
                become(word.length, "e");
            }
        }

        private void step1c() {
            int stem = word.length - 1;
            if (word.endsWith("y") && hasVowel(stem)) {
                become(stem, "i");
            }
        }

        private void replaceIfAbove(Ending[] endings, int bound) {
            Ending ending = longest(endings);
            if (ending != null && measure(stemBefore(ending)) > bound) {
                become(stemBefore(ending), ending.substitute);
            }
        }

        private void step4() {
            boolean isHeldBack = word.endsWith("ion") && !word.endsWith("sion") && !word.endsWith("tion");
            if (!isHeldBack) {
                replaceIfAbove(endings4, 1);
            }
        }

        private void step5a() {
            if (!word.endsWith("e")) {
                return;
            }
            int stem = word.length - 1;
            int m = measure(stem);
            if (m > 1 || m == 1 && !isCvc(stem)) {
                become(stem, "");
            }
        }

        private void step5b() {
            if (word.endsWith("ll") && measure(word.length) > 1) {
                become(word.length - 1, "");
            }
        }

        private Ending longest(Ending[] endings) {
            Ending found = null;
            for (int at = 0; at < endings.length; at++) {
                Ending ending = endings[at];
                boolean isLonger = found == null || ending.text.length() > found.text.length();
                if (isLonger && word.endsWith(ending.text)) {
                    found = ending;
                }
            }
            return found;
        }

        private int stemBefore(Ending ending) {
            return word.length - ending.text.length();
        }

        private void become(int stem, String more) {
            word.length = stem;
            word.append(more);
            markVowels();
        }

        /** From the left, since a y hangs on the letter before it. */
        private void markVowels() {
            for (int at = 0; at < word.length; at++) {
                int letter = word.characters[at];
                boolean isBehindConsonant = at > 0 && !vowels[at - 1];
                vowels[at] = letter == 'a' || letter == 'e' || letter == 'i' || letter == 'o'
                    || letter == 'u' || letter == 'y' && isBehindConsonant;
            }
        }

        private int measure(int stem) {
            int m = 0;
            for (int at = 1; at < stem; at++) {
                if (vowels[at - 1] && !vowels[at]) {
                    m++;
                }
            }
            return m;
        }

        private boolean hasVowel(int stem) {
            for (int at = 0; at < stem; at++) {
                if (vowels[at]) {
                    return true;
                }
            }
            return false;
        }

        /** Of two y's just one is a consonant: the last letter decides. */
        private boolean isDouble() {
            int last = word.length - 1;
            return last > 0 && word.characters[last] == word.characters[last - 1] && !vowels[last];
        }

        private boolean isCvc(int stem) {
            if (stem < 3 || vowels[stem - 3] || !vowels[stem - 2] || vowels[stem - 1]) {
                return false;
            }
            int last = word.characters[stem - 1];
            return last != 'w' && last != 'x' && last != 'y';
        }
    }

    /** The TOKENS of the latest cut, their CHARACTERS one behind the other in one row. */
    private static final class Tokens {
        final int[] characters;
        final int[] positions;
        /** One more than there are TOKENS: the last one is the end of them all. */
        final int[] starts;
        int size = 0;

        Tokens(int most) {
            characters = new int[most];
            positions = new int[most];
            starts = new int[most + 1];
        }

        void clear() {
            size = 0;
        }

        void add(Word word, int position) {
            int start = starts[size];
            System.arraycopy(word.characters, 0, characters, start, word.length);
            positions[size] = position;
            size++;
            starts[size] = start + word.length;
        }

        boolean has(int i) {
            return i >= 0 && i < size;
        }

        int lengthOf(int i) {
            return starts[i + 1] - starts[i];
        }

        int firstLike(int i) {
            for (int other = 0; other < i; other++) {
                if (areAlike(other, i)) {
                    return other;
                }
            }
            return i;
        }

        private boolean areAlike(int one, int other) {
            int length = lengthOf(one);
            if (length != lengthOf(other)) {
                return false;
            }
            for (int k = 0; k < length; k++) {
                if (characters[starts[one] + k] != characters[starts[other] + k]) {
                    return false;
                }
            }
            return true;
        }
    }
}
