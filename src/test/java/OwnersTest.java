/** Point (1): owners' endings go. */
final class OwnersTest {
    public static void main(String[] args) {
        allFour();
        longerThanTheseTwo();
        othersStay();
        once();
        beforeTheOtherPoints();
        Checks.finish();
    }

    private static void allFour() {
        Checks.about("(1) If it ends with ' or U+2019 and s or S, they go");
        Checks.dueTokens("John's john'S JOHN\u2019s john\u2019S", "0:john 1:john 2:john 3:john");
        Checks.dueTokens("caf\u00e9's \u0439\u2019s x.y's x\u00b7y's x_y's", "0:caf\u00e9 1:\u0439 2:x.y 3:x\u00b7y 4:x_y");
        Checks.dueTokens("12x's", "0:12x");
    }

    /** Just a rest behind 255 CHARACTERS can be these two alone. */
    private static void longerThanTheseTwo() {
        Checks.about("(1) and is longer than these two");
        String x255 = "1" + "x".repeat(254);
        Checks.dueTokens("x's", "0:x");
        Checks.dueTokens("xy's", "0:xy");
        for (String two : new String[] {"'s", "'S", "\u2019s", "\u2019S"}) {
            Checks.due("alone " + two, Checks.word(Checks.cut(x255 + two), 1), two.toLowerCase());
            Checks.due("one longer " + two, Checks.word(Checks.cut(x255 + "x" + two), 1), "x");
            Checks.due("two longer " + two, Checks.word(Checks.cut(x255 + "xy" + two), 1), "xy");
        }
        Checks.due("a mark before them", Checks.word(Checks.cut(x255 + ".x's"), 1), ".x");
        Checks.due("one CHARACTER", Checks.word(Checks.cut(x255 + "s"), 1), "s");
    }

    private static void othersStay() {
        Checks.about("(1) If it ends with ' or U+2019 and s or S: with nothing else");
        Checks.dueTokens("x't x'r x'sx x's1 x's_", "0:x't 1:x'r 2:x'sx 3:x's1 4:x's_");
        Checks.dueTokens("x.s x\u00b7s xs 1_s x'\u0161 x'\u015f x'\u0455",
            "0:x.s 1:x\u00b7s 2:xs 3:1_s 4:x'\u0161 5:x'\u015f 6:x'\u0455");
        Checks.dueTokens("rivers' 1's x\u2018s x''s s's", "0:river 1:1 2:s 3:x 4:s 5:x 6:s 7:s");
    }

    private static void once() {
        Checks.about("(1) they go: once");
        Checks.dueTokens("x's's x\u2019s's x's\u2019S", "0:x's 1:x\u2019s 2:x's");
    }

    private static void beforeTheOtherPoints() {
        Checks.about("(1) before (2), (3) and (4)");
        Checks.dueTokens("it's The's OF\u2019S", "");
        Checks.dueTokens("running's cats's us's gas's", "0:run 1:cat 2:us 3:ga");
        Checks.due("CHARACTERS", Checks.counts(Checks.cut("running's it's")), "0 1 2 14 3");
    }
}
