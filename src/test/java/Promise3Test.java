/** end: the last 20 - n bytes go, or none. */
final class Promise3Test {
    public static void main(String[] args) {
        everyNumber();
        wrongNumbers();
        tooFew();
        whatStays();
        Checks.finish();
    }

    private static void everyNumber() {
        for (int n = 0; n <= 19; n++) {
            WordChain x = new WordChain();
            x.feed(0, 0, 0, 0, 0);
            Checks.due("end(" + n + ")", x.end(n), n);
            Checks.due("length after end(" + n + ")", x.count(0), n);
        }
    }

    private static void wrongNumbers() {
        WordChain x = new WordChain();
        x.feed(0, 0, 0, 0, 0);
        x.feed(0, 0, 0, 0, 0);
        for (int n : new int[] {-1, 20, 21, -20, Integer.MIN_VALUE, Integer.MAX_VALUE}) {
            Checks.refused("end(" + n + ")", IllegalArgumentException.class, () -> x.end(n));
            Checks.due("length after refused end(" + n + ")", x.count(0), 40);
        }
    }

    private static void tooFew() {
        WordChain x = new WordChain();
        Checks.refused("end(19) of nothing", IllegalArgumentException.class, () -> x.end(19));
        x.feed(0, 0, 0, 0, 0);
        Checks.due("five stay", x.end(5), 5);
        Checks.refused("six of five", IllegalArgumentException.class, () -> x.end(14));
        Checks.due("five still", x.count(0), 5);
        Checks.due("five of five", x.end(15), 0);
        Checks.refused("one of none", IllegalArgumentException.class, () -> x.end(19));
    }

    private static void whatStays() {
        WordChain x = Checks.cut("old");
        Checks.feed(x, Checks.utf8("new text that goes.."));
        x.end(8);
        Checks.due("TOKENS stay", Checks.tokens(x), "0:old");
        x.cut();
        Checks.due("the first bytes stay", Checks.tokens(x), "0:new 1:text");
    }
}
