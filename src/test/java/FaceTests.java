import java.io.IOException;
import java.lang.reflect.Constructor;
import java.lang.reflect.Field;
import java.lang.reflect.Method;
import java.lang.reflect.Modifier;
import java.nio.file.Files;
import java.nio.file.Path;
import java.util.Arrays;
import java.util.List;
import java.util.Set;
import java.util.TreeSet;
import java.util.regex.Pattern;

/** The public face is the document's and no more, and the source keeps clear of what LANGUAGE.md bars. */
public final class FaceTests {
    private static final Checks CHECKS = new Checks();
    private static final List<String> FACE = List.of(
        "int board(int, int, int)", "int set(int, int, int)", "int at(int, int, int)", "int number(int, int, int)",
        "int begin(int, int, int, int)", "int bar(int, int, int)", "int judge(int)", "int cost(int, int)",
        "int miss()", "int rounds(int)", "int share(int, int, int)", "int background(int, int, int)", "int period()",
        "int hear(int, int)", "int clear(int)", "int later()", "int turned(int, int)",
        "int truth(int, int, int, int)", "int apart(int)", "int order()", "int count(int)", "long trace()");
    private static final List<String> BARRED_WORDS = List.of(
        "throw", "throws", "try", "catch", "finally", "synchronized", "assert", "protected", "package", "Exact\\w*",
        "float", "double", "Math\\.random", "System\\.(?!arraycopy)\\w+", "Thread", "Object", "hashCode", "toString");

    public static void main(String[] args) throws IOException {
        methodsAreTheFace();
        fieldsAreTheFace();
        sourceKeepsToTheLanguage();
        CHECKS.end("FaceTests");
    }

    private static String told(Method method) {
        String types = String.join(", ", Arrays.stream(method.getParameterTypes()).map(Class::getName).toList());
        return method.getReturnType().getName() + " " + method.getName() + "(" + types + ")";
    }

    private static void methodsAreTheFace() {
        Set<String> open = new TreeSet<>();
        Set<String> openNames = new TreeSet<>();
        for (Method method : VoiceParts.class.getDeclaredMethods()) {
            if (!Modifier.isPrivate(method.getModifiers())) {
                open.add(told(method));
                openNames.add(method.getName());
                CHECKS.holds(method + " is public, not static", Modifier.isPublic(method.getModifiers())
                    && !Modifier.isStatic(method.getModifiers()));
            }
        }
        CHECKS.holds("the methods are the document's: " + open, open.equals(new TreeSet<>(FACE)));
        for (Method method : VoiceParts.class.getDeclaredMethods()) {
            if (Modifier.isPrivate(method.getModifiers())) {
                CHECKS.holds(method + " bears no public name", !openNames.contains(method.getName()));
                CHECKS.holds(method + " has at most seven parameters", method.getParameterCount() <= 7);
            }
        }
        Constructor<?>[] constructors = VoiceParts.class.getDeclaredConstructors();
        CHECKS.due("constructors", constructors.length, 1);
        CHECKS.due("its parameters", constructors[0].getParameterCount(), 0);
        CHECKS.holds("the constructor is public", Modifier.isPublic(constructors[0].getModifiers()));
        CHECKS.holds("the class is public and final", Modifier.isPublic(VoiceParts.class.getModifiers())
            && Modifier.isFinal(VoiceParts.class.getModifiers()));
    }

    private static void fieldsAreTheFace() {
        Set<String> open = new TreeSet<>();
        int own = 0;
        for (Field field : VoiceParts.class.getDeclaredFields()) {
            int modifiers = field.getModifiers();
            if (!Modifier.isPrivate(modifiers)) {
                open.add(field.getName());
                CHECKS.holds(field + " is a public constant", Modifier.isPublic(modifiers)
                    && Modifier.isStatic(modifiers) && field.getType() == int.class);
            }
            CHECKS.holds(field + " is final if static", !Modifier.isStatic(modifiers) || Modifier.isFinal(modifiers));
            own += Modifier.isStatic(modifiers) ? 0 : 1;
        }
        CHECKS.holds("the constants are the document's: " + open, open.equals(Set.of("BAD", "STATE", "FULL", "NONE")));
        CHECKS.holds("some twenty fields", own <= 20);
    }

    private static void sourceKeepsToTheLanguage() throws IOException {
        String source = Files.readString(Path.of("src/main/java/VoiceParts.java"));
        String code = Pattern.compile("/\\*.*?\\*/", Pattern.DOTALL).matcher(source).replaceAll("").replaceAll("//.*", "");
        for (String word : BARRED_WORDS) {
            CHECKS.holds("no " + word, !Pattern.compile("\\b" + word + "\\b").matcher(code).find());
        }
        CHECKS.holds("no lambda and no method reference", !code.contains("->") && !code.contains("::"));
        CHECKS.holds("characters 0 to 127 alone", source.chars().allMatch(c -> c < 128));
    }
}
