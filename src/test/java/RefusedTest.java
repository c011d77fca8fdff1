import java.util.ArrayList;
import java.util.LinkedHashMap;
import java.util.List;
import java.util.Map;
import java.util.NoSuchElementException;
import java.util.TreeSet;
import java.util.function.Supplier;
import java.util.function.ToIntFunction;

/** A refused call throws what the document says, and every answer after it is as if it had not been made. */
final class RefusedTest {
    private static final int MIN = Integer.MIN_VALUE;
    private static final int MAX = Integer.MAX_VALUE;

    private record Refusal(String name, Class<? extends RuntimeException> want, ToIntFunction<WordChain> call) {
    }

    public static void main(String[] args) {
        Checks.about("A refused call (one that throws) changes nothing");
        for (Map.Entry<String, Supplier<WordChain>> state : states().entrySet()) {
            oneByOne(state.getKey(), state.getValue());
        }
        Checks.about("A refused call (one that throws) changes nothing: many of them");
        for (Map.Entry<String, Supplier<WordChain>> state : states().entrySet()) {
            allInARow(state.getKey(), state.getValue());
        }
        Checks.about("A refused call (one that throws) changes nothing: between all others");
        betweenAllOthers();
        Checks.finish();
    }

    private static Map<String, Supplier<WordChain>> states() {
        String many = "rivers lakes hills ".repeat(432);
        Map<String, Supplier<WordChain>> states = new LinkedHashMap<>();
        states.put("new", WordChain::new);
        for (int length : new int[] {1, 19, 20, 21, 8172, 8173, 8191, 8192}) {
            states.put("fed with " + length, () -> Checks.fed(Checks.utf8(many.substring(0, length))));
        }
        states.put("cut", RefusedTest::cut);
        states.put("cut of nothing", () -> Checks.cut(""));
        states.put("cut to nothing", () -> Checks.cut("the of _ and"));
        for (int length : new int[] {1, 15, 8173, 8192}) {
            states.put("cut, then fed with " + length, () -> {
                WordChain x = cut();
                Checks.feed(x, Checks.utf8(many.substring(0, length)));
                return x;
            });
        }
        return states;
    }

    private static WordChain cut() {
        return Checks.cut("The rivers of caf\u00e9 \u4e2d xs rivers");
    }

    private static void oneByOne(String state, Supplier<WordChain> made) {
        String want = observed(made.get());
        for (Refusal refusal : refusals(made.get())) {
            WordChain x = made.get();
            Checks.refused(state + ": " + refusal.name, refusal.want, () -> refusal.call.applyAsInt(x));
            Checks.due(state + ", after refused " + refusal.name, observed(x), want);
        }
    }

    /** Twenty at a time, since a full INPUT leaves room for no more calls. */
    private static void allInARow(String state, Supplier<WordChain> made) {
        String want = observed(made.get());
        List<Refusal> all = refusals(made.get());
        for (int from = 0; from < all.size(); from += 20) {
            WordChain x = made.get();
            for (Refusal refusal : all.subList(from, Math.min(from + 20, all.size()))) {
                Checks.refused(state + ": " + refusal.name, refusal.want, () -> refusal.call.applyAsInt(x));
            }
            Checks.due(state + ", after refused ones from " + from, observed(x), want);
        }
    }

    private static List<Refusal> refusals(WordChain x) {
        List<Refusal> all = new ArrayList<>();
        int tokens = x.count(1);
        addFeeds(all, x.count(0));
        addEnds(all, x.count(0));
        for (int i : new int[] {-1, tokens, tokens + 1, 8192, MIN, MAX}) {
            add(all, "token(" + i + ", 0)", NoSuchElementException.class, y -> y.token(i, 0));
            add(all, "token(" + i + ", 1)", NoSuchElementException.class, y -> y.token(i, 1));
            add(all, "first(" + i + ")", NoSuchElementException.class, y -> y.first(i));
            add(all, "character(" + i + ", 0)", NoSuchElementException.class, y -> y.character(i, 0));
            add(all, "character(" + i + ", -1)", NoSuchElementException.class, y -> y.character(i, -1));
        }
        for (int what : new int[] {-1, 2, MIN, MAX}) {
            for (int i : new int[] {0, -1, tokens}) {
                add(all, "token(" + i + ", " + what + ")", IllegalArgumentException.class, y -> y.token(i, what));
            }
        }
        for (int i = 0; i < tokens; i++) {
            int at = i;
            for (int k : new int[] {-1, x.token(i, 1), x.token(i, 1) + 1, MIN, MAX}) {
                add(all, "character(" + i + ", " + k + ")", NoSuchElementException.class, y -> y.character(at, k));
            }
        }
        for (int c : new int[] {-1, 1114112, MIN, MAX}) {
            add(all, "sort(" + c + ")", IllegalArgumentException.class, y -> y.sort(c));
        }
        return all;
    }

    private static void addFeeds(List<Refusal> all, int length) {
        if (length > 8172) {
            add(all, "feed", IndexOutOfBoundsException.class,
                y -> y.feed(0x78787878, 0x78787878, 0x78787878, 0x78787878, 0x78787878));
            add(all, "feed of nothing", IndexOutOfBoundsException.class, y -> y.feed(0, 0, 0, 0, 0));
        }
    }

    private static void addEnds(List<Refusal> all, int length) {
        for (int n : new int[] {-1, 20, 21, MIN, MAX}) {
            add(all, "end(" + n + ")", IllegalArgumentException.class, y -> y.end(n));
        }
        for (int n = 0; n < 20 && 20 - n > length; n++) {
            int bytes = n;
            add(all, "end(" + n + ")", IllegalArgumentException.class, y -> y.end(bytes));
        }
    }

    private static void add(List<Refusal> all, String name, Class<? extends RuntimeException> want,
            ToIntFunction<WordChain> call) {
        all.add(new Refusal(name, want, call));
    }

    /** Some sixty calls that tell all that there is: TOKENS, then INPUT, by what it is cut into. */
    private static String observed(WordChain x) {
        StringBuilder all = new StringBuilder(Checks.counts(x)).append(sample(x));
        all.append(" feed ").append(answer(() -> x.feed(0x62206320, 0x64206620, 0x67206820, 0x6A206B20, 0x6C206D20)));
        all.append(" end ").append(answer(() -> x.end(18)));
        all.append(" cut ").append(x.cut()).append(' ').append(Checks.counts(x)).append(sample(x));
        return all.toString();
    }

    private static String answer(Checks.Call call) {
        try {
            return String.valueOf(call.answer());
        } catch (RuntimeException e) {
            return e.getClass().getName();
        }
    }

    private static String sample(WordChain x) {
        int tokens = x.count(1);
        TreeSet<Integer> asked = new TreeSet<>(List.of(0, 1, 2, tokens - 2, tokens - 1));
        StringBuilder all = new StringBuilder();
        for (int i : asked) {
            if (i >= 0 && i < tokens) {
                int length = x.token(i, 1);
                all.append(" / ").append(i).append(' ').append(x.token(i, 0)).append(' ').append(length).append(' ')
                    .append(x.character(i, 0)).append(' ').append(x.character(i, length - 1)).append(' ')
                    .append(x.first(i));
            }
        }
        return all.toString();
    }

    private static void betweenAllOthers() {
        List<ToIntFunction<WordChain>> script = new ArrayList<>();
        script.add(y -> y.feed(0x54686520, 0x72697665, 0x72732061, 0x72650000, 0));
        script.add(y -> y.end(14));
        script.add(y -> y.count(0));
        script.add(WordChain::cut);
        script.add(y -> y.token(0, 0));
        script.add(y -> y.token(0, 1));
        script.add(y -> y.character(0, 4));
        script.add(y -> y.feed(0x6C616B65, 0x73206C61, 0x6B657320, 0x68696C6C, 0x73202020));
        script.add(y -> y.first(0));
        script.add(y -> y.end(17));
        script.add(WordChain::cut);
        script.add(y -> y.first(1));
        script.add(y -> y.character(2, 3));
        script.add(y -> y.count(4));
        script.add(y -> y.sort('x'));
        int[] wants = {20, 14, 14, 1, 1, 5, 'r', 20, 0, 17, 3, 0, 'l', 12, 1};
        WordChain x = new WordChain();
        for (int at = 0; at < wants.length; at++) {
            Checks.refused("end(20)", IllegalArgumentException.class, () -> x.end(20));
            Checks.refused("end(-1)", IllegalArgumentException.class, () -> x.end(-1));
            Checks.refused("token(0, 2)", IllegalArgumentException.class, () -> x.token(0, 2));
            Checks.refused("token(9, 0)", NoSuchElementException.class, () -> x.token(9, 0));
            Checks.refused("character(0, 9)", NoSuchElementException.class, () -> x.character(0, 9));
            Checks.refused("first(-1)", NoSuchElementException.class, () -> x.first(-1));
            Checks.refused("sort(-1)", IllegalArgumentException.class, () -> x.sort(-1));
            Checks.due("call " + at, script.get(at).applyAsInt(x), wants[at]);
        }
    }
}
