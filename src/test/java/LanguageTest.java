import java.io.IOException;
import java.lang.reflect.Executable;
import java.lang.reflect.Field;
import java.lang.reflect.Method;
import java.lang.reflect.Modifier;
import java.nio.charset.StandardCharsets;
import java.nio.file.Files;
import java.nio.file.Path;
import java.util.ArrayList;
import java.util.List;
import java.util.Set;
import java.util.TreeSet;
import java.util.regex.Matcher;
import java.util.regex.Pattern;

/** Rules of LANGUAGE.md that can be read off the program's source and its compiled classes. */
final class LanguageTest {
    private static final Set<String> PUBLIC_NAMES = Set.of(
        "feed", "end", "cut", "token", "character", "first", "sort", "count");
    private static final Set<String> LIBRARY = Set.of(
        "java/lang/Object.<init>()V",
        "java/lang/String.length()I",
        "java/lang/String.charAt(I)C",
        "java/lang/String.equals(Ljava/lang/Object;)Z",
        "java/lang/Math.max(II)I",
        "java/lang/Math.min(II)I",
        "java/lang/System.arraycopy(Ljava/lang/Object;ILjava/lang/Object;II)V",
        "java/lang/IllegalArgumentException.<init>(Ljava/lang/String;)V",
        "java/lang/IndexOutOfBoundsException.<init>(Ljava/lang/String;)V",
        "java/util/NoSuchElementException.<init>(Ljava/lang/String;)V");
    private static final int LONGEST_METHOD = 60;
    /** From a line that ends with a parameter list and a brace, to the brace below its first letter. */
    private static final Pattern METHOD = Pattern.compile(
        "(?m)^( +)[^\\n]*\\) (throws [^\\n]*)?\\{\\n(.*\\n)*?\\1\\}$");

    public static void main(String[] args) throws IOException {
        List<Class<?>> classes = new ArrayList<>(List.of(WordChain.class.getDeclaredClasses()));
        classes.add(WordChain.class);
        String source = Files.readString(Path.of("src/main/java/WordChain.java"), StandardCharsets.UTF_8);
        names(classes);
        ruledOut(source);
        library(classes);
        staticFields(classes);
        sizes(classes);
        linesOfMethods(source);
        Checks.finish();
    }

    private static void names(List<Class<?>> classes) {
        Checks.about("rule 1: No private method bears the name of a public one");
        for (Class<?> one : classes) {
            for (Method method : one.getDeclaredMethods()) {
                boolean isOfTheFace = one == WordChain.class && Modifier.isPublic(method.getModifiers());
                Checks.due("name of " + method, PUBLIC_NAMES.contains(method.getName()), isOfTheFace);
            }
        }
    }

    private static void ruledOut(String source) {
        Checks.about("rules 2, 3, 5, 6, 10: what the program's text may not have");
        Checks.due("characters 0 to 127 alone", source.chars().allMatch(c -> c < 128), true);
        String[] patterns = {
            "->", "::", "\\bpackage\\b", "\\bassert\\b", "\\bfinally\\b", "\\btry\\b", "\\bsynchronized\\b",
            "\\bprotected\\b", "\\bstatic \\{", "\\bString\\[\\]", "\" *\\+", "\\+ *\"",
            "\\b(hashCode|toString|getMessage)\\b", "\\[\\]\\[\\]",
            "import (?!java\\.util\\.NoSuchElementException;)"};
        for (String pattern : patterns) {
            Checks.due("has " + pattern, Pattern.compile(pattern).matcher(source).find(), false);
        }
    }

    private static void library(List<Class<?>> classes) throws IOException {
        Checks.about("rules 4, 6, 13: The library: only what stands here");
        for (Class<?> one : classes) {
            ClassFile compiled = new ClassFile(one);
            Set<String> named = new TreeSet<>(compiled.namedOutside());
            Checks.due(one + " names something", named.isEmpty(), false);
            named.removeAll(LIBRARY);
            Checks.due("outside the library, in " + one, named, Set.of());
            Checks.due("calls that are bound late, in " + one, compiled.hasDynamicCalls(), false);
        }
    }

    private static void staticFields(List<Class<?>> classes) {
        Checks.about("rule 5: Static fields are final: constants");
        Set<Class<?>> constants = Set.of(int.class, long.class, boolean.class, char.class, String.class);
        for (Class<?> one : classes) {
            for (Field field : one.getDeclaredFields()) {
                if (Modifier.isStatic(field.getModifiers())) {
                    Checks.due("final: " + field, Modifier.isFinal(field.getModifiers()), true);
                    Checks.due("a constant: " + field, constants.contains(field.getType()), true);
                }
            }
        }
    }

    private static void sizes(List<Class<?>> classes) {
        Checks.about("rule 11: parameters, classes, fields");
        Checks.due("at most twelve classes: " + classes.size(), classes.size() <= 12, true);
        for (Class<?> one : classes) {
            int fields = 0;
            for (Field field : one.getDeclaredFields()) {
                fields += Modifier.isStatic(field.getModifiers()) ? 0 : 1;
            }
            Checks.due("at most twenty fields: " + one, fields <= 20, true);
            List<Executable> all = new ArrayList<>(List.of(one.getDeclaredMethods()));
            all.addAll(List.of(one.getDeclaredConstructors()));
            for (Executable method : all) {
                Checks.due("at most seven parameters: " + method, method.getParameterCount() <= 7, true);
            }
        }
    }

    private static void linesOfMethods(String source) {
        Checks.about("rule 11: Methods stay short (some sixty lines)");
        Matcher body = METHOD.matcher(source);
        int bodies = 0;
        while (body.find()) {
            bodies++;
            Checks.due("lines of " + body.group().split("\n")[0].strip(),
                body.group().split("\n").length <= LONGEST_METHOD, true);
        }
        Checks.due("methods were found", bodies >= 40, true);
    }
}
