import java.lang.reflect.Constructor;
import java.lang.reflect.Field;
import java.lang.reflect.Method;
import java.lang.reflect.Modifier;
import java.nio.file.Files;
import java.nio.file.Path;
import java.util.ArrayList;
import java.util.Collections;
import java.util.List;
import java.util.StringJoiner;
import java.util.regex.Matcher;
import java.util.regex.Pattern;

/** The public face to the letter, and arguments far out of range. */
final class FaceTest {
    private static final String FACE = String.join("\n",
            "INVALID_ARGUMENT = -1000001", "LIMIT_REACHED = -1000003",
            "NOT_FOUND = -1000004", "NOT_POSSIBLE = -1000002",
            "battery(int)", "clearText()", "count(int)", "critical()", "cut()", "fault(int)",
            "flush(int)", "learn()", "lineOf(int,int)", "lines(int)", "load(int)", "pair(int)",
            "placeOf(int,int)", "play()", "read(int)", "set(int,int)", "tick(int)",
            "ticksUntil(int)", "type(int)", "undo()", "wouldFlush(int)", "write(int,int)");
    private static final String HEADINGS = String.join("\n",
            "---- reads and writes", "read", "write", "flush",
            "---- time, battery", "tick", "load", "learn", "cut", "set",
            "---- what there is", "lineOf", "placeOf", "battery", "lines",
            "---- what would be", "wouldFlush", "critical", "ticksUntil", "pair", "count", "undo",
            "---- texts", "type", "clearText", "fault", "play");

    public static void main(String[] args) throws Exception {
        face();
        constructor();
        headings();
        callsWithExtremes();
        Check.end("FaceTest");
    }

    private static void face() throws Exception {
        List<String> members = new ArrayList<>();
        for (Field field : BatteryCaches.class.getDeclaredFields()) {
            if (!Modifier.isPrivate(field.getModifiers())) {
                Check.due(field.getName() + " is public static final", field.getModifiers(),
                        Modifier.PUBLIC | Modifier.STATIC | Modifier.FINAL);
                members.add(field.getName() + " = " + field.getInt(null));
            }
        }
        for (Method method : BatteryCaches.class.getDeclaredMethods()) {
            if (!Modifier.isPrivate(method.getModifiers()) && !method.isSynthetic()) {
                Check.due(method.getName() + " is public", method.getModifiers(), Modifier.PUBLIC);
                Check.dueText("what " + method.getName() + " returns", method.getReturnType().getName(), "int");
                StringJoiner types = new StringJoiner(",", "(", ")");
                for (Class<?> type : method.getParameterTypes()) {
                    types.add(type.getName());
                }
                members.add(method.getName() + types);
            }
        }
        Collections.sort(members);
        Check.dueText("the face", String.join("\n", members), FACE);
    }

    private static void constructor() {
        Constructor<?>[] constructors = BatteryCaches.class.getDeclaredConstructors();
        Check.due("constructors", constructors.length, 1);
        Check.due("its parameters", constructors[0].getParameterCount(), 0);
        Check.due("it is public", constructors[0].getModifiers(), Modifier.PUBLIC);
        Check.due("the class is public and final", BatteryCaches.class.getModifiers(), Modifier.PUBLIC | Modifier.FINAL);
    }

    private static void headings() throws Exception {
        String source = Files.readString(Path.of("src/main/java/BatteryCaches.java"));
        Matcher matcher = Pattern.compile("// (---- .*)|public int (\\w+)\\(").matcher(source);
        StringJoiner found = new StringJoiner("\n");
        while (matcher.find()) {
            found.add(matcher.group(1) != null ? matcher.group(1) : matcher.group(2));
        }
        Check.dueText("what is said ahead of the calls", found.toString(), HEADINGS);
    }

    /** No argument may make the machine throw, and none that is out of every range may change anything. */
    private static void callsWithExtremes() throws Exception {
        int[] extremes = {Integer.MIN_VALUE, Integer.MIN_VALUE + 19, -1000, -1, 1000, 1 << 16, Integer.MAX_VALUE};
        BatteryCaches cache = new BatteryCaches();
        for (Method method : BatteryCaches.class.getDeclaredMethods()) {
            for (int extreme : extremes) {
                if (Modifier.isPublic(method.getModifiers()) && method.getParameterCount() > 0) {
                    Object[] arguments = method.getParameterCount() == 1 ? new Object[] {extreme} : new Object[] {extreme, extreme};
                    Check.due(method.getName() + "(" + extreme + ")", (Integer) method.invoke(cache, arguments),
                            BatteryCaches.INVALID_ARGUMENT);
                }
            }
        }
        Check.due("count(9)", cache.count(9), 0);
        Check.due("count(10)", cache.count(10), 0);
    }
}
