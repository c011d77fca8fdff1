import java.util.NoSuchElementException;

/** An object answers as it should for 512 calls, the last one as the first one. */
final class CallsTest {
    private static final int MOST = 512;

    public static void main(String[] args) {
        Checks.about("An object is used for at most 512 calls after it has been made");
        feeds();
        ends();
        cuts();
        feedsAndCuts();
        wholeRounds();
        answersOnly();
        refusedOnes();
        theLastCall();
        Checks.finish();
    }

    private static int feedLake(WordChain x) {
        return x.feed(0x6C616B65, 0x7320616E, 0x64206869, 0x6C6C7320, 0x78202020);
    }

    private static void feeds() {
        WordChain x = new WordChain();
        for (int call = 1; call <= MOST; call++) {
            if (call <= 409) {
                Checks.due("feed " + call, feedLake(x), 20 * call);
            } else {
                Checks.refused("feed " + call, IndexOutOfBoundsException.class, () -> feedLake(x));
            }
        }
    }

    private static void ends() {
        WordChain x = new WordChain();
        for (int call = 1; call <= 16; call++) {
            Checks.due("feed " + call, feedLake(x), 20 * call);
        }
        for (int call = 1; call <= 320; call++) {
            Checks.due("end " + call, x.end(19), 320 - call);
        }
        for (int call = 337; call <= MOST; call++) {
            Checks.refused("end of none", IllegalArgumentException.class, () -> x.end(19));
        }
    }

    private static void cuts() {
        WordChain x = new WordChain();
        for (int call = 1; call <= MOST; call++) {
            Checks.due("cut " + call, x.cut(), 0);
        }
    }

    private static void feedsAndCuts() {
        WordChain x = new WordChain();
        for (int call = 1; call <= MOST; call += 2) {
            Checks.due("feed, call " + call, feedLake(x), 20);
            Checks.due("cut, call " + (call + 1), x.cut(), 3);
        }
    }

    /** Eight calls a round: the 512th is the last one of a round. */
    private static void wholeRounds() {
        WordChain x = new WordChain();
        for (int round = 0; round < MOST / 8; round++) {
            int letter = "bcdfghjklmnpqrtvwxz".charAt(round % 19);
            Checks.due("feed", x.feed(letter << 24 | 0x206F66, 0x20000000 | letter << 16 | letter << 8, 0, 0, 0), 20);
            Checks.due("end", x.end(7), 7);
            Checks.due("cut", x.cut(), 2);
            Checks.due("POSITION", x.token(1, 0), 2);
            Checks.due("CHARACTER", x.character(1, 1), letter);
            Checks.due("first", x.first(1), 1);
            Checks.due("sort", x.sort(letter), 1);
            Checks.due("CHARACTERS of TOKENS", x.count(4), 3);
        }
    }

    private static void answersOnly() {
        WordChain x = new WordChain();
        feedLake(x);
        x.cut();
        for (int call = 3; call <= MOST; call += 6) {
            Checks.due("POSITION", x.token(1, 0), 2);
            Checks.due("length", x.token(0, 1), 4);
            Checks.due("CHARACTER", x.character(0, 3), (int) 'e');
            Checks.due("first", x.first(2), 2);
            Checks.due("sort", x.sort(0x4E00), 7);
            Checks.due("WORDS", x.count(2), 4);
        }
    }

    private static void refusedOnes() {
        WordChain x = new WordChain();
        feedLake(x);
        for (int call = 2; call <= 505; call += 4) {
            Checks.refused("end", IllegalArgumentException.class, () -> x.end(20));
            Checks.refused("token", NoSuchElementException.class, () -> x.token(0, 0));
            Checks.refused("first", NoSuchElementException.class, () -> x.first(0));
            Checks.refused("sort", IllegalArgumentException.class, () -> x.sort(-1));
        }
        Checks.due("length", x.count(0), 20);
        Checks.due("cut", x.cut(), 3);
        Checks.due("the 508th call", x.token(0, 1), 4);
    }

    private static WordChain used(int calls) {
        WordChain x = new WordChain();
        feedLake(x);
        x.cut();
        feedLake(x);
        for (int call = 4; call <= calls; call++) {
            x.count(call % 5);
        }
        return x;
    }

    private static void theLastCall() {
        for (int before = MOST - 3; before < MOST; before++) {
            String which = "call " + (before + 1) + ": ";
            int calls = before;
            Checks.due(which + "feed", feedLake(used(calls)), 40);
            Checks.due(which + "end", used(calls).end(1), 1);
            Checks.due(which + "cut", used(calls).cut(), 3);
            Checks.due(which + "token", used(calls).token(2, 0), 3);
            Checks.due(which + "character", used(calls).character(2, 0), (int) 'x');
            Checks.due(which + "first", used(calls).first(1), 1);
            Checks.due(which + "sort", used(calls).sort('_'), 3);
            Checks.due(which + "count", used(calls).count(3), 20);
            Checks.refused(which + "end(20)", IllegalArgumentException.class, () -> used(calls).end(20));
            Checks.refused(which + "token(3, 0)", NoSuchElementException.class, () -> used(calls).token(3, 0));
        }
    }
}
