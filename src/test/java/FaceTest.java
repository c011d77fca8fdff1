import java.lang.reflect.Constructor;
import java.lang.reflect.Field;
import java.lang.reflect.Method;
import java.lang.reflect.Modifier;
import java.util.Arrays;
import java.util.Set;
import java.util.TreeSet;

/** The public face: all of it, and no more of it than the document has. */
final class FaceTest {
    private static final Set<String> METHODS = Set.of(
        "public int WordChain.feed(int,int,int,int,int) throws java.lang.IndexOutOfBoundsException",
        "public int WordChain.end(int) throws java.lang.IllegalArgumentException",
        "public int WordChain.cut()",
        "public int WordChain.token(int,int) throws"
            + " java.lang.IllegalArgumentException,java.util.NoSuchElementException",
        "public int WordChain.character(int,int) throws java.util.NoSuchElementException",
        "public int WordChain.first(int) throws java.util.NoSuchElementException",
        "public int WordChain.sort(int) throws java.lang.IllegalArgumentException",
        "public int WordChain.count(int)");

    public static void main(String[] args) {
        theClass();
        theConstructor();
        theMethods();
        noMoreThanThese();
        Checks.finish();
    }

    private static void theClass() {
        Checks.about("public final class WordChain");
        Checks.due("modifiers", Modifier.toString(WordChain.class.getModifiers()), "public final");
        Checks.due("name, without a package", WordChain.class.getName(), "WordChain");
        Checks.due("what it extends", WordChain.class.getSuperclass(), Object.class);
        Checks.due("what it implements", WordChain.class.getInterfaces().length, 0);
    }

    private static void theConstructor() {
        Checks.about("public WordChain()");
        Constructor<?>[] all = WordChain.class.getDeclaredConstructors();
        Checks.due("constructors", Arrays.toString(all), "[public WordChain()]");
    }

    private static void theMethods() {
        Checks.about("the eight methods, with what each says that it throws");
        Set<String> found = new TreeSet<>();
        for (Method method : WordChain.class.getDeclaredMethods()) {
            if (!Modifier.isPrivate(method.getModifiers())) {
                found.add(method.toString());
            }
        }
        Checks.due("methods", found, new TreeSet<>(METHODS));
    }

    private static void noMoreThanThese() {
        Checks.about("no other public, protected or package-visible member, but for the classes inside it");
        for (Field field : WordChain.class.getDeclaredFields()) {
            Checks.due("private: " + field, Modifier.isPrivate(field.getModifiers()), true);
        }
        for (Class<?> inside : WordChain.class.getDeclaredClasses()) {
            int modifiers = inside.getModifiers();
            Checks.due("static: " + inside, Modifier.isStatic(modifiers), true);
            boolean isSeenOutside = Modifier.isPublic(modifiers) || Modifier.isProtected(modifiers);
            Checks.due("seen outside: " + inside, isSeenOutside, false);
        }
    }
}
