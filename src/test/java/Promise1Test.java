import java.util.NoSuchElementException;

/** A new object: INPUT is empty, there are no TOKENS. */
final class Promise1Test {
    public static void main(String[] args) {
        inputIsEmpty();
        noTokens();
        nothingWasCut();
        objectsAreApart();
        Checks.finish();
    }

    private static void inputIsEmpty() {
        Checks.about("INPUT is empty");
        WordChain x = new WordChain();
        Checks.due("count(0)", x.count(0), 0);
        Checks.refused("end(19): not one byte is there", IllegalArgumentException.class, () -> x.end(19));
        Checks.refused("end(0)", IllegalArgumentException.class, () -> x.end(0));
        Checks.due("the first feed", x.feed(0, 0, 0, 0, 0), 20);
        Checks.due("cut of nothing", new WordChain().cut(), 0);
    }

    private static void noTokens() {
        Checks.about("there are no TOKENS");
        WordChain x = new WordChain();
        Checks.due("count(1)", x.count(1), 0);
        Checks.due("count(4)", x.count(4), 0);
        Checks.refused("token(0, 0)", NoSuchElementException.class, () -> x.token(0, 0));
        Checks.refused("token(0, 1)", NoSuchElementException.class, () -> x.token(0, 1));
        Checks.refused("token(0, 2)", IllegalArgumentException.class, () -> x.token(0, 2));
        Checks.refused("character(0, 0)", NoSuchElementException.class, () -> x.character(0, 0));
        Checks.refused("first(0)", NoSuchElementException.class, () -> x.first(0));
    }

    private static void nothingWasCut() {
        Checks.about("both 0 before any");
        WordChain x = new WordChain();
        Checks.due("count(2)", x.count(2), 0);
        Checks.due("count(3)", x.count(3), 0);
    }

    private static void objectsAreApart() {
        Checks.about("INPUT is empty, there are no TOKENS, whatever other objects have");
        WordChain one = Checks.cut("river");
        Checks.feed(one, Checks.utf8("lakes"));
        WordChain other = new WordChain();
        Checks.due("counts of the other", Checks.counts(other), "0 0 0 0 0");
        Checks.feed(other, Checks.utf8("hills and"));
        Checks.due("cut of the other", other.cut(), 1);
        Checks.due("tokens of the one", Checks.tokens(one), "0:river");
        Checks.due("counts of the one", Checks.counts(one), "5 1 1 5 5");
        one.cut();
        Checks.due("tokens of the one, cut again", Checks.tokens(one), "0:lake");
        Checks.due("tokens of the other", Checks.tokens(other), "0:hill");
    }
}
