import java.io.IOException;
import java.lang.reflect.InvocationTargetException;
import java.lang.reflect.Method;
import java.nio.charset.StandardCharsets;
import java.nio.file.Files;
import java.nio.file.Path;
import java.util.regex.Matcher;
import java.util.regex.Pattern;

/** README.md tells each method in the document's words, and its calls answer what it says. */
final class ReadmeTest {
    private static final Pattern PROMISE = Pattern.compile("## Promise \\d+: [^`]*`([^`]+)`: (.*?)(?= ## |$)");
    private static final Pattern CALL = Pattern.compile(
        "(?m)^chain\\.(\\w+)\\((.*?)\\); +// (-?\\d+|throws \\w+)\\b.*$");
    private static final Pattern CODE = Pattern.compile("(?s)```java\n(.*?)```");

    public static void main(String[] args) throws IOException, IllegalAccessException {
        String readme = Files.readString(Path.of("README.md"), StandardCharsets.UTF_8);
        String document = Files.readString(Path.of("../shared/DOC.md"), StandardCharsets.UTF_8);
        inTheDocumentsWords(folded(readme), folded(document));
        sectionsTellWhatIsThrown(readme);
        callsAnswerSo(readme);
        Checks.about("how its tests are run");
        Checks.due(".ci/run in a line of its own", readme.contains("\n.ci/run\n"), true);
        Checks.finish();
    }

    private static String folded(String text) {
        return text.replaceAll("\\s+", " ").strip();
    }

    private static void inTheDocumentsWords(String readme, String document) {
        Checks.about("each method, what it answers, what it throws, in the document's words");
        Matcher promise = PROMISE.matcher(document.split(" ## Not promised")[0]);
        int promises = 0;
        while (promise.find()) {
            promises++;
            String face = promise.group(1);
            Checks.due("the page has " + face, readme.contains("`" + face + "`"), true);
            for (String sentence : promise.group(2).strip().split("(?<=\\.) (?=[A-Z])")) {
                Checks.due("the page has " + sentence, readme.contains(sentence), true);
            }
        }
        Checks.due("promises of the document", promises, 9);
        String[] forAll = {
            "INPUT is a row of bytes, at most 8192, empty at first.",
            "\"Bad\" is IllegalArgumentException, a number out of range.",
            "A refused call (one that throws) changes nothing.",
            "An object is used for at most 512 calls after it has been made; what later calls answer is free."};
        for (String sentence : forAll) {
            String own = sentence.replaceAll("[.]$", "");
            Checks.due("the document has " + own, document.contains(own), true);
            Checks.due("the page has " + sentence, readme.contains(sentence), true);
        }
    }

    private static void sectionsTellWhatIsThrown(String readme) {
        Checks.about("each method has a section that names what it throws");
        for (Method method : WordChain.class.getMethods()) {
            if (method.getDeclaringClass() != WordChain.class) {
                continue;
            }
            String section = sectionOf(readme, method.getName());
            for (Class<?> thrown : method.getExceptionTypes()) {
                String told = section.substring(Math.max(0, section.indexOf("- Throws")));
                Checks.due(method.getName() + " tells of " + thrown, told.contains(thrown.getSimpleName()), true);
            }
            boolean throwsNothing = section.contains("- Throws nothing.");
            Checks.due(method.getName() + " throws nothing", throwsNothing, method.getExceptionTypes().length == 0);
        }
    }

    private static String sectionOf(String readme, String name) {
        Matcher section = Pattern.compile("(?s)\n### " + name + "\n(.*?)(?=\n##)").matcher(readme);
        boolean isThere = section.find();
        Checks.due("a section for " + name, isThere, true);
        return isThere ? section.group(1) : "";
    }

    private static void callsAnswerSo(String readme) throws IllegalAccessException {
        Checks.about("the calls of the page answer what it says behind them");
        Matcher code = CODE.matcher(readme);
        Checks.due("code", code.find(), true);
        Matcher call = CALL.matcher(code.group(1));
        WordChain chain = new WordChain();
        int calls = 0;
        while (call.find()) {
            calls++;
            String line = call.group();
            Checks.due(line, answerOf(chain, call.group(1), call.group(2)), call.group(3));
        }
        Checks.due("each line but the first is such a call", calls, (int) code.group(1).lines().count() - 1);
    }

    private static String answerOf(WordChain chain, String name, String written) throws IllegalAccessException {
        String[] numbers = written.isEmpty() ? new String[0] : written.split(", ");
        Object[] values = new Object[numbers.length];
        for (int at = 0; at < numbers.length; at++) {
            boolean isCharacter = numbers[at].startsWith("'");
            values[at] = isCharacter ? numbers[at].charAt(1) : Long.decode(numbers[at]).intValue();
        }
        for (Method method : WordChain.class.getMethods()) {
            if (method.getName().equals(name) && method.getDeclaringClass() == WordChain.class) {
                return answerOf(chain, method, values);
            }
        }
        return "no such method";
    }

    private static String answerOf(WordChain chain, Method method, Object[] values) throws IllegalAccessException {
        try {
            return method.invoke(chain, values).toString();
        } catch (InvocationTargetException e) {
            return "throws " + e.getCause().getClass().getSimpleName();
        }
    }
}
