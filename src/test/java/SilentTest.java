import java.util.ArrayList;
import java.util.List;
import java.util.Set;

/** Point (3): words that say nothing go. */
final class SilentTest {
    private static final String[] LIST = (
        "a an and are as at be but by for if in into is it no not of on or such that"
        + " the their then there these they this to was will with").split(" ");

    public static void main(String[] args) {
        eachOfTheList();
        positionStays();
        othersStay();
        oneLetterOther();
        beforeStemming();
        Checks.finish();
    }

    private static void eachOfTheList() {
        Checks.about("(3) It goes if it's one of: a an and are ..");
        for (String word : LIST) {
            String capital = word.substring(0, 1).toUpperCase() + word.substring(1);
            for (String form : new String[] {word, word.toUpperCase(), capital, word + "'s", capital + "\u2019S"}) {
                Checks.due("counts of <" + form + ">", Checks.counts(Checks.cut(form)), "0 0 1 " + form.length() + " 0");
            }
        }
    }

    private static void positionStays() {
        Checks.about("its POSITION staying what it is (those that go by (3) have one, too)");
        for (String word : LIST) {
            WordChain x = Checks.cut(word + " x " + word + " " + word + " y");
            Checks.due("around <" + word + ">", Checks.tokens(x), "1:x 4:y");
            Checks.due("WORDS around <" + word + ">", x.count(2), 5);
        }
        Checks.dueTokens("x the", "0:x");
        Checks.dueTokens("the x", "1:x");
    }

    private static void othersStay() {
        Checks.about("(3) It goes if it's one of: others stay");
        Checks.dueTokens("he i we you from were has have which", "0:he 1:i 2:we 3:you 4:from 5:were 6:ha 7:have 8:which");
        Checks.dueTokens("the_ _the the1 1a a_ a1", "0:the_ 1:_the 2:the1 3:1a 4:a_ 5:a1");
        Checks.dueTokens("th\u00e9 \u0430 \u0430n t\u04bbe \u00e0 i.t o'f t\u00b7o", 
            "0:th\u00e9 1:\u0430 2:\u0430n 3:t\u04bbe 4:\u00e0 5:i.t 6:o'f 7:t\u00b7o");
        Checks.dueTokens("thethe aa ana withwith", "0:theth 1:aa 2:ana 3:withwith");
        Checks.dueTokens("th withe ther thei thes", "0:th 1:with 2:ther 3:thei 4:the");
    }

    /** One letter less, more or other; TOKENS are counted, since a text is a few hundred of them. */
    private static void oneLetterOther() {
        Checks.about("(3) It goes if it's one of: one letter decides");
        for (String word : LIST) {
            List<String> near = near(word);
            for (int from = 0; from < near.size(); from += 300) {
                countOf(near.subList(from, Math.min(from + 300, near.size())));
            }
        }
    }

    private static List<String> near(String word) {
        List<String> near = new ArrayList<>();
        for (int at = 0; at <= word.length(); at++) {
            String before = word.substring(0, at);
            String behind = word.substring(at);
            for (char c = 'a'; c <= 'z'; c++) {
                near.add(before + c + behind);
                near.add(behind.isEmpty() ? c + word : before + c + behind.substring(1));
            }
            near.add(behind.isEmpty() ? "x" : before + behind.substring(1) + (word.length() == 1 ? "x" : ""));
        }
        return near;
    }

    private static void countOf(List<String> words) {
        Set<String> silent = Set.of(LIST);
        long stay = words.stream().filter(word -> !silent.contains(word)).count();
        WordChain x = Checks.cut(String.join(" ", words));
        Checks.due("TOKENS of " + words, (long) x.count(1), stay);
        Checks.due("WORDS of " + words, x.count(2), words.size());
    }

    private static void beforeStemming() {
        Checks.about("(3) before (4): what becomes such a word by its stem stays");
        Checks.dueTokens("its theirs ins ofs tos ands noting these's",
            "0:it 1:their 2:in 3:of 4:to 5:and 6:note");
        Checks.dueTokens("this thiss with withs", "1:thiss 3:with");
    }
}
