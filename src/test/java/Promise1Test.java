import java.util.NoSuchElementException;

/** A new object: INPUT is empty, there are no TOKENS. */
final class Promise1Test {
    public static void main(String[] args) {
        WordChain x = new WordChain();
        for (int what = 0; what <= 4; what++) {
            Checks.due("count(" + what + ") of a new object", x.count(what), 0);
        }
        Checks.refused("token(0, 0)", NoSuchElementException.class, () -> x.token(0, 0));
        Checks.refused("character(0, 0)", NoSuchElementException.class, () -> x.character(0, 0));
        Checks.refused("first(0)", NoSuchElementException.class, () -> x.first(0));
        Checks.refused("end(19)", IllegalArgumentException.class, () -> x.end(19));
        Checks.due("cut of nothing", x.cut(), 0);
        objectsAreApart();
        Checks.finish();
    }

    private static void objectsAreApart() {
        WordChain one = Checks.cut("river");
        WordChain other = new WordChain();
        Checks.due("tokens of the other", other.count(1), 0);
        Checks.due("cut of the other", other.cut(), 0);
        Checks.due("tokens of the one", Checks.tokens(one), "0:river");
    }
}
