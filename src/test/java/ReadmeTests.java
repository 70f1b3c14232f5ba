import java.io.IOException;
import java.lang.reflect.Field;
import java.lang.reflect.Method;
import java.lang.reflect.Modifier;
import java.nio.file.Files;
import java.nio.file.Path;
import java.util.Arrays;
import java.util.regex.Matcher;
import java.util.regex.Pattern;

/** README.md tells every call and constant, and its example answers what it says. */
public final class ReadmeTests {
    private static final Checks CHECKS = new Checks();
    private static final Pattern EXAMPLE = Pattern.compile("```java\n(.*?)```", Pattern.DOTALL);
    private static final Pattern CALL = Pattern.compile("x\\.(\\w+)\\(([^)]*)\\); *// (-?\\d+)(:.*)?");
    private static final String FIRST_LINE = "VoiceParts x = new VoiceParts();";

    public static void main(String[] args) throws IOException, ReflectiveOperationException {
        String readme = Files.readString(Path.of("README.md"));
        exampleAnswersAsTold(readme);
        faceIsTold(readme);
        testsAreTold(readme);
        CHECKS.end("ReadmeTests");
    }

    private static void exampleAnswersAsTold(String readme) throws ReflectiveOperationException {
        Matcher example = EXAMPLE.matcher(readme);
        CHECKS.holds("there is an example", example.find());
        VoiceParts x = new VoiceParts();
        for (String line : example.group(1).split("\n")) {
            if (!line.isBlank() && !line.equals(FIRST_LINE)) {
                answersAsTold(x, line);
            }
        }
    }

    private static void answersAsTold(VoiceParts x, String line) throws ReflectiveOperationException {
        Matcher call = CALL.matcher(line);
        if (!call.matches()) {
            CHECKS.holds("'" + line + "' is a call with its answer", false);
            return;
        }
        Object[] arguments = Arrays.stream(call.group(2).split(", *")).filter(s -> !s.isEmpty())
            .map(Integer::valueOf).toArray();
        Class<?>[] types = new Class<?>[arguments.length];
        Arrays.fill(types, int.class);
        Number got = (Number) VoiceParts.class.getMethod(call.group(1), types).invoke(x, arguments);
        CHECKS.due(line, got.longValue(), Long.parseLong(call.group(3)));
    }

    /** Each call has a row with as many arguments as it takes, each constant one with its value. */
    private static void faceIsTold(String readme) throws ReflectiveOperationException {
        for (Method method : VoiceParts.class.getDeclaredMethods()) {
            if (Modifier.isPublic(method.getModifiers())) {
                int arguments = method.getParameterCount();
                String inside = arguments == 0 ? "" : "\\w+(, \\w+){" + (arguments - 1) + "}";
                String row = "(?m)^\\| `" + method.getName() + "\\(" + inside + "\\)` \\| .+ \\|$";
                CHECKS.holds(method.getName() + " is told", Pattern.compile(row).matcher(readme).find());
            }
        }
        for (Field field : VoiceParts.class.getFields()) {
            String row = "| `" + field.getName() + "` | " + field.getInt(null) + " |";
            CHECKS.holds(field.getName() + " is told", readme.contains(row));
        }
    }

    private static void testsAreTold(String readme) throws IOException {
        CHECKS.holds("how to run the tests is told", readme.contains("\n.ci/run\n"));
        try (var files = Files.list(Path.of("src/test/java"))) {
            for (String name : files.map(file -> file.getFileName().toString()).toList()) {
                if (name.endsWith("Tests.java")) {
                    CHECKS.holds(name + " is told", readme.contains("`src/test/java/" + name + "`"));
                }
            }
        }
    }
}
