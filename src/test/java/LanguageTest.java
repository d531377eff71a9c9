import java.lang.reflect.Constructor;
import java.lang.reflect.Field;
import java.lang.reflect.Method;
import java.lang.reflect.Modifier;
import java.nio.file.Files;
import java.nio.file.Path;
import java.util.ArrayList;
import java.util.HashSet;
import java.util.LinkedHashMap;
import java.util.List;
import java.util.Map;
import java.util.Set;
import java.util.TreeSet;
import java.util.regex.Matcher;
import java.util.regex.Pattern;

/** The rules of LANGUAGE.md that can be seen in the class and in its source. */
final class LanguageTest {
    private static final String[] FORBIDDEN = {
        "\\bthrow\\b", "\\btry\\b", "\\bcatch\\b", "\\bsynchronized\\b", "\\bassert\\b",
        "\\bimport\\b", "\\bpackage\\b", "->", "::", "\\bThread\\b", "\\bObject\\b", "\\binstanceof\\b",
        "\\bnull\\b(?! \\|\\|| *\\))", "[^\\x00-\\x7f]"
    };
    private static final Set<String> LIBRARY = Set.of("Math.max", "Math.min", "Math.abs", "Integer.bitCount",
            "System.arraycopy");
    // A method of the class or of one inside it: its head at four or eight blanks, its end at as many.
    private static final Pattern METHOD = Pattern.compile(
            "(?ms)^( {4}| {8})(?:\\w+ )*?(?:\\w+(?:\\[\\])?) ([a-z]\\w*)\\([^()]*\\) \\{\n(.*?)^\\1\\}");

    private static String code;
    private static final List<Class<?>> CLASSES = new ArrayList<>();

    public static void main(String[] args) throws Exception {
        String source = Files.readString(Path.of("src/main/java/BatteryCaches.java"));
        code = source.replaceAll("//.*", "").replaceAll("(?s)/\\*.*?\\*/", "");
        CLASSES.add(BatteryCaches.class);
        CLASSES.addAll(List.of(BatteryCaches.class.getDeclaredClasses()));
        names();
        classesInside();
        words();
        staticFields();
        sizes();
        callDepth();
        Check.end("LanguageTest");
    }

    private static void names() {
        Check.sentence("rule 1: no private method bears the name of a public one");
        Set<String> names = new HashSet<>();
        for (Method method : BatteryCaches.class.getDeclaredMethods()) {
            if (Modifier.isPublic(method.getModifiers())) {
                names.add(method.getName());
            }
        }
        for (Class<?> type : CLASSES) {
            for (Method method : type.getDeclaredMethods()) {
                if (!Modifier.isPublic(method.getModifiers())) {
                    Check.due(type.getName() + "." + method.getName(), names.contains(method.getName()) ? 1 : 0, 0);
                }
            }
        }
    }

    private static void classesInside() {
        Check.sentence("rule 1: the classes inside are private or package-visible and static");
        for (Class<?> inside : BatteryCaches.class.getDeclaredClasses()) {
            Check.due(inside.getName() + " is static", inside.getModifiers() & Modifier.STATIC, Modifier.STATIC);
            Check.due(inside.getName() + " is not public", inside.getModifiers() & Modifier.PUBLIC, 0);
        }
    }

    private static void words() {
        Check.sentence("rules 2 to 4, 6 and 13: what the language leaves out");
        for (String word : FORBIDDEN) {
            Check.due("'" + word + "' in the class", Pattern.compile(word).matcher(code).find() ? 1 : 0, 0);
        }
        Set<String> unknown = new TreeSet<>();
        Matcher use = Pattern.compile("\\b[A-Z]\\w*[a-z]\\w*\\.\\w+").matcher(code);
        while (use.find()) {
            if (!LIBRARY.contains(use.group()) && !use.group().startsWith("State.")) {
                unknown.add(use.group());
            }
        }
        Check.dueText("what the class uses of the library beside " + LIBRARY, unknown.toString(), "[]");
    }

    private static void staticFields() {
        Check.sentence("rule 5: static fields are final");
        for (Class<?> type : CLASSES) {
            for (Field field : type.getDeclaredFields()) {
                if (Modifier.isStatic(field.getModifiers())) {
                    Check.due(field.getName() + " is final", field.getModifiers() & Modifier.FINAL, Modifier.FINAL);
                }
            }
        }
    }

    private static void sizes() {
        Check.sentence("rule 11: how much of everything there may be");
        atMost("classes", CLASSES.size(), 12);
        for (Class<?> type : CLASSES) {
            int fields = 0;
            for (Field field : type.getDeclaredFields()) {
                fields += Modifier.isStatic(field.getModifiers()) ? 0 : 1;
            }
            atMost("fields of " + type.getName(), fields, 20);
            for (Method method : type.getDeclaredMethods()) {
                atMost("parameters of " + method.getName(), method.getParameterCount(), 7);
            }
            for (Constructor<?> constructor : type.getDeclaredConstructors()) {
                atMost("parameters of " + constructor.getName(), constructor.getParameterCount(), 7);
            }
        }
        methods().forEach((name, body) -> atMost("lines of " + name, body.split("\n").length, 60));
    }

    private static void callDepth() {
        Check.sentence("rule 11: calls that are no recursion go at most eight deep");
        Map<String, String> methods = methods();
        int declared = 0;
        for (Class<?> type : CLASSES) {
            for (Method method : type.getDeclaredMethods()) {
                declared++;
                Check.due(method.getName() + " is found in the source", methods.containsKey(method.getName()) ? 1 : 0, 1);
            }
        }
        Check.due("methods of different names", methods.size(), declared);
        for (String name : methods.keySet()) {
            atMost("calls open in " + name, depth(name, methods, 0), 8);
        }
    }

    /** How many calls stand open at most when this one is made; a recursion goes far beyond all limits. */
    private static int depth(String name, Map<String, String> methods, int above) {
        int deepest = above + 1;
        Matcher call = Pattern.compile("\\b(\\w+)\\(").matcher(methods.get(name));
        while (above < 100 && call.find()) {
            if (methods.containsKey(call.group(1))) {
                deepest = Math.max(deepest, depth(call.group(1), methods, above + 1));
            }
        }
        return deepest;
    }

    private static Map<String, String> methods() {
        Map<String, String> methods = new LinkedHashMap<>();
        Matcher method = METHOD.matcher(code);
        while (method.find()) {
            methods.put(method.group(2), method.group(3));
        }
        return methods;
    }

    private static void atMost(String what, int number, int limit) {
        Check.due(what + ": " + number + " are more than " + limit, number > limit ? 1 : 0, 0);
    }
}
