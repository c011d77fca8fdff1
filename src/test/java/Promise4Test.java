/** cut: INPUT becomes TOKENS, and is empty then. */
final class Promise4Test {
    public static void main(String[] args) {
        inputIsCut();
        emptyThen();
        takeThePlace();
        cutOfNothing();
        largeThenSmall();
        howMany();
        Checks.finish();
    }

    private static void inputIsCut() {
        Checks.about("INPUT is cut");
        Checks.dueTokens("The rivers of Europe's plains, e.g. the Rhine, are 1,233 km long.",
            "1:river 3:europ 4:plain 5:e.g 7:rhine 9:1,233 10:km 11:long");
        Checks.dueTokens("x", "0:x");
        Checks.dueTokens(" ", "");
        Checks.dueTokens("the", "");
    }

    private static void emptyThen() {
        Checks.about("INPUT is cut, and empty then");
        WordChain x = Checks.fed(Checks.utf8("rivers and lakes"));
        Checks.due("length before", x.count(0), 16);
        x.cut();
        Checks.due("length then", x.count(0), 0);
        Checks.refused("end(19) then", IllegalArgumentException.class, () -> x.end(19));
        Checks.due("feed then", x.feed(0x68696C6C, 0, 0, 0, 0), 20);
        x.cut();
        Checks.due("none of the old bytes", Checks.tokens(x), "0:hill");
        Checks.due("none of the old CHARACTERS", x.count(3), 20);
        WordChain full = Checks.cut("x".repeat(8192));
        Checks.due("length of a full one then", full.count(0), 0);
        Checks.due("feed to it then", full.feed(0, 0, 0, 0, 0), 20);
    }

    private static void takeThePlace() {
        Checks.about("its TOKENS take the place of those that there were");
        WordChain x = Checks.cut("one two three");
        Checks.feed(x, Checks.utf8("four"));
        Checks.due("still the old ones", Checks.tokens(x), "0:on 1:two 2:three");
        Checks.due("fewer TOKENS", x.cut(), 1);
        Checks.due("the new one alone", Checks.tokens(x), "0:four");
        Checks.refused("an old one", java.util.NoSuchElementException.class, () -> x.token(1, 0));
        Checks.feed(x, Checks.utf8("the four winds"));
        Checks.due("more TOKENS", x.cut(), 2);
        Checks.due("the new ones", Checks.tokens(x), "1:four 2:wind");
        Checks.due("first of the new ones", x.first(0), 0);
        Checks.feed(x, Checks.utf8("the of and"));
        Checks.due("words that all go", x.cut(), 0);
        Checks.due("no TOKENS", Checks.tokens(x), "");
        Checks.due("counts", Checks.counts(x), "0 0 3 10 0");
    }

    private static void cutOfNothing() {
        Checks.about("INPUT is cut: an empty one, too");
        WordChain x = new WordChain();
        Checks.due("new", x.cut(), 0);
        Checks.due("counts", Checks.counts(x), "0 0 0 0 0");
        Checks.feed(x, Checks.utf8("rivers of"));
        Checks.due("one", x.cut(), 1);
        Checks.due("counts of one", Checks.counts(x), "0 1 2 9 5");
        Checks.due("none", x.cut(), 0);
        Checks.due("counts of none", Checks.counts(x), "0 0 0 0 0");
        Checks.refused("no TOKEN", java.util.NoSuchElementException.class, () -> x.token(0, 0));
        Checks.due("none again", x.cut(), 0);
    }

    /** A full INPUT takes 411 calls, so that some ninety are left. */
    private static void largeThenSmall() {
        Checks.about("its TOKENS take the place of those that there were: of the most that there can be");
        WordChain x = Checks.cut("x ".repeat(4096));
        Checks.feed(x, Checks.utf8("yes x the x"));
        Checks.due("a few", x.cut(), 3);
        Checks.due("the few", Checks.tokens(x), "0:ye 1:x 3:x");
        Checks.due("first among the few", x.first(2), 1);
        Checks.due("counts of the few", Checks.counts(x), "0 3 4 11 4");
        WordChain y = Checks.cut("yes x the x");
        Checks.feed(y, Checks.utf8("z ".repeat(4096)));
        Checks.due("the most", y.cut(), 4096);
        Checks.due("counts of the most", Checks.counts(y), "0 4096 4096 8192 4096");
        Checks.due("first of the last", y.first(4095), 0);
    }

    private static void howMany() {
        Checks.about("Answers how many");
        Checks.due("none of none", Checks.fed(Checks.utf8("")).cut(), 0);
        Checks.due("none of three", Checks.fed(Checks.utf8("the of and")).cut(), 0);
        Checks.due("one of three", Checks.fed(Checks.utf8("the of sand")).cut(), 1);
        Checks.due("three of three", Checks.fed(Checks.utf8("thee off sand")).cut(), 3);
        Checks.due("4095", Checks.fed(Checks.utf8("x ".repeat(4095))).cut(), 4095);
        Checks.due("4096", Checks.fed(Checks.utf8("x ".repeat(4096))).cut(), 4096);
        Checks.due("2730 ideographs", Checks.fed(Checks.utf8("\u4e2d".repeat(2730))).cut(), 2730);
        Checks.due("33 pieces", Checks.fed(Checks.utf8("1".repeat(8192))).cut(), 33);
        Checks.due("the same ones count, too", Checks.fed(Checks.utf8("x x x")).cut(), 3);
    }
}
