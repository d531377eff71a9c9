import java.lang.reflect.Method;
import java.lang.reflect.Modifier;
import java.nio.file.Files;
import java.nio.file.Path;
import java.util.List;
import java.util.regex.Matcher;
import java.util.regex.Pattern;
import java.util.stream.Collectors;
import java.util.stream.Stream;

/** README.md: its examples answer what it tells, and it names each call, each answer and each test. */
final class ReadmeTest {
    private static final String NEW_OBJECT = "BatteryCaches cache = new BatteryCaches();";
    private static final Pattern TYPED = Pattern.compile(
            "for \\(char c : \"(.*)\"\\.toCharArray\\(\\)\\) cache\\.type\\(c\\);");
    private static final Pattern CALL = Pattern.compile("cache\\.(\\w+)\\(([\\d, ]*)\\); *// (\\d+|[A-Z_]+)(:.*)?");

    private static String readme;
    private static BatteryCaches cache;

    public static void main(String[] args) throws Exception {
        readme = Files.readString(Path.of("README.md"));
        examples();
        namesAllCalls();
        namesAllErrors();
        namesAllTests();
        Check.end("ReadmeTest");
    }

    private static void examples() throws Exception {
        Matcher block = Pattern.compile("(?s)```java\n(.*?)```").matcher(readme);
        int blocks = 0;
        while (block.find()) {
            blocks++;
            cache = null;
            for (String line : block.group(1).split("\n")) {
                follow(line);
            }
        }
        Check.due("README.md's examples", blocks > 0 ? 1 : 0, 1);
    }

    /** A line of another form would be told, but not tested, and so is a wrong one. */
    private static void follow(String line) throws Exception {
        Matcher typed = TYPED.matcher(line);
        Matcher call = CALL.matcher(line);
        if (line.equals(NEW_OBJECT)) {
            cache = new BatteryCaches();
        } else if (typed.matches()) {
            typed.group(1).chars().forEach(c -> cache.type(c));
        } else if (call.matches()) {
            Check.due("README.md: " + line, answer(call.group(1), call.group(2)), told(call.group(3)));
        } else {
            Check.due("README.md has an example that can't be followed: " + line, 1, 0);
        }
    }

    private static int answer(String name, String arguments) throws Exception {
        Object[] numbers = Pattern.compile("\\d+").matcher(arguments).results()
                .map(number -> Integer.parseInt(number.group())).toArray();
        Class<?>[] types = Stream.of(numbers).map(number -> int.class).toArray(Class<?>[]::new);
        return (Integer) BatteryCaches.class.getMethod(name, types).invoke(cache, numbers);
    }

    private static int told(String answer) throws Exception {
        boolean isNumber = Character.isDigit(answer.charAt(0));
        return isNumber ? Integer.parseInt(answer) : BatteryCaches.class.getField(answer).getInt(null);
    }

    private static void namesAllCalls() {
        for (Method method : BatteryCaches.class.getDeclaredMethods()) {
            if (Modifier.isPublic(method.getModifiers())) {
                named("`" + method.getName() + "(");
            }
        }
    }

    private static void namesAllErrors() {
        for (String error : List.of("INVALID_ARGUMENT", "NOT_POSSIBLE", "LIMIT_REACHED", "NOT_FOUND")) {
            named("| `" + error + "` |");
        }
    }

    private static void namesAllTests() throws Exception {
        try (Stream<Path> files = Files.list(Path.of("src/test/java"))) {
            List<String> names = files.map(file -> file.getFileName().toString()).collect(Collectors.toList());
            for (String name : names) {
                if (name.endsWith("Test.java")) {
                    named("| `" + name.replace(".java", "") + "` |");
                }
            }
        }
        named("\n.ci/run\n");
    }

    private static void named(String words) {
        Check.due("README.md names " + words.trim(), readme.contains(words) ? 1 : 0, 1);
    }
}
