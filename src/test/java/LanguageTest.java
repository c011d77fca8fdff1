import java.io.IOException;
import java.lang.reflect.Constructor;
import java.lang.reflect.Field;
import java.lang.reflect.Method;
import java.lang.reflect.Modifier;
import java.nio.charset.StandardCharsets;
import java.nio.file.Files;
import java.nio.file.Path;
import java.util.Set;
import java.util.TreeSet;
import java.util.regex.Pattern;

/** The face that the document asks for, and rules of LANGUAGE.md that can be read off the program. */
final class LanguageTest {
    private static final Set<String> FACE = new TreeSet<>(Set.of(
        "feed/5", "end/1", "cut/0", "token/2", "character/2", "first/1", "sort/1", "count/1"));

    public static void main(String[] args) throws IOException {
        face();
        classesInside();
        source(Files.readString(Path.of("src/main/java/WordChain.java"), StandardCharsets.UTF_8));
        Checks.finish();
    }

    private static void face() {
        int isFinalAndPublic = Modifier.FINAL | Modifier.PUBLIC;
        Checks.due("modifiers", WordChain.class.getModifiers() & isFinalAndPublic, isFinalAndPublic);
        Set<String> found = new TreeSet<>();
        for (Method method : WordChain.class.getDeclaredMethods()) {
            if (Modifier.isPrivate(method.getModifiers())) {
                Checks.due("private with a public name: " + method, hasPublicName(method), false);
            } else {
                found.add(method.getName() + "/" + method.getParameterCount());
                Checks.due("answer of " + method, method.getReturnType(), int.class);
            }
        }
        Checks.due("methods", found, FACE);
        for (Constructor<?> constructor : WordChain.class.getDeclaredConstructors()) {
            Checks.due("parameters of " + constructor, constructor.getParameterCount(), 0);
        }
        for (Field field : WordChain.class.getDeclaredFields()) {
            Checks.due("private: " + field, Modifier.isPrivate(field.getModifiers()), true);
        }
    }

    private static boolean hasPublicName(Method method) {
        return FACE.stream().anyMatch(face -> face.startsWith(method.getName() + "/"));
    }

    private static void classesInside() {
        Class<?>[] inside = WordChain.class.getDeclaredClasses();
        Checks.due("at most twelve classes", inside.length < 12, true);
        for (Class<?> one : inside) {
            Checks.due("static: " + one, Modifier.isStatic(one.getModifiers()), true);
            Checks.due("not public: " + one, Modifier.isPublic(one.getModifiers()), false);
            for (Method method : one.getDeclaredMethods()) {
                Checks.due("name of " + method, hasPublicName(method), false);
            }
            for (Field field : one.getDeclaredFields()) {
                boolean isChanging = Modifier.isStatic(field.getModifiers())
                    && !Modifier.isFinal(field.getModifiers());
                Checks.due("no static state: " + field, isChanging, false);
            }
        }
    }

    private static void source(String text) {
        Checks.due("characters 0 to 127 alone", text.chars().allMatch(c -> c < 128), true);
        String[] ruledOut = {
            "->", "::", "\\bpackage\\b", "\\bassert\\b", "\\bfinally\\b", "\\bsynchronized\\b",
            "\\bprotected\\b", "\\bstatic \\{", "\\bString\\[\\]", "\" *\\+", "\\+ *\"",
            "import (?!java\\.util\\.NoSuchElementException;)"};
        for (String pattern : ruledOut) {
            Checks.due("has " + pattern, Pattern.compile(pattern).matcher(text).find(), false);
        }
    }
}
