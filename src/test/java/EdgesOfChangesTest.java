import java.util.ArrayList;
import java.util.LinkedHashMap;
import java.util.List;
import java.util.Map;
import java.util.StringJoiner;
import java.util.function.Consumer;
import java.util.function.ToIntFunction;

/** Boundary cases of changes and errors (promises 1, 18, 19 and all errors): a test for each sentence that names one. */
final class EdgesOfChangesTest {
    private static final int INVALID = BatteryCaches.INVALID_ARGUMENT;
    private static final int IMPOSSIBLE = BatteryCaches.NOT_POSSIBLE;
    private static final int LIMIT = BatteryCaches.LIMIT_REACHED;
    private static final int MISSING = BatteryCaches.NOT_FOUND;
    private static final int[] AROUND = {Integer.MIN_VALUE, -1, 0, 1, 2, 3, 4, 5, 6, 8, 9, 30, 31, 32, 64, 99, 100, 127, 399, 999,
        1000, Integer.MAX_VALUE};

    private static final Map<String, Consumer<BatteryCaches>> SCENES = new LinkedHashMap<>();
    private static final Map<String, ToIntFunction<BatteryCaches>> CALLS = new LinkedHashMap<>();
    private static final List<String> CHANGES = List.of("read", "write", "tick", "load", "learn", "cut", "flush", "set", "play");

    public static void main(String[] args) {
        makeScenes();
        makeCalls();
        constants();
        newObject();
        whichCallsAreChanges();
        errorsChangeNothing();
        errorsComeInOrder();
        fourStates();
        undoRestoresAll();
        undoOfNothing();
        changesRecordNoText();
        countsAtFirst();
        countOutOfRange();
        countsOfEachKind();
        fiveHundredAndTwelveCalls();
        objectsOfTheirOwn();
        Check.end("EdgesOfChangesTest");
    }

    private static void makeScenes() {
        SCENES.put("new", x -> { });
        SCENES.put("some lines", x -> {
            x.write(3, 7);
            x.read(4);
            x.write(63, 8);
            x.flush(2);
        });
        SCENES.put("all dirty", x -> fill(x));
        SCENES.put("too many dirty", x -> {
            fill(x);
            x.set(0, 500);
            x.set(1, 500);
        });
        SCENES.put("no charge", x -> {
            fill(x);
            x.load(999);
            x.load(1);
        });
        SCENES.put("cycle that falls", x -> {
            fill(x);
            x.learn();
            x.tick(2);
        });
        SCENES.put("cycle that rises", x -> {
            x.learn();
            x.tick(30);
            x.write(5, 5);
        });
        SCENES.put("behind a cut", x -> {
            fill(x);
            x.cut();
            x.undo();
            x.cut();
        });
        SCENES.put("text with orders", x -> {
            fill(x);
            Check.retype(x, "w9=9;l650;t2;g;");
        });
        SCENES.put("text with a fault", x -> {
            x.write(1, 1);
            Check.retype(x, "w9=9;g;g;");
        });
        SCENES.put("text that ends too early", x -> {
            x.read(1);
            Check.retype(x, "w64=5");
        });
        SCENES.put("full text", x -> {
            x.write(2, 2);
            Check.retype(x, "c;".repeat(30));
        });
        SCENES.put("full text and history", x -> {
            fill(x);
            x.learn();
            Check.retype(x, "g;".repeat(30));
        });
    }

    private static void fill(BatteryCaches x) {
        for (int line = 0; line < 8; line++) {
            x.write(line, 10 + line);
        }
    }

    private static void makeCalls() {
        for (int a : AROUND) {
            CALLS.put("read(" + a + ")", x -> x.read(a));
            CALLS.put("flush(" + a + ")", x -> x.flush(a));
            CALLS.put("tick(" + a + ")", x -> x.tick(a));
            CALLS.put("load(" + a + ")", x -> x.load(a));
            CALLS.put("battery(" + a + ")", x -> x.battery(a));
            CALLS.put("lines(" + a + ")", x -> x.lines(a));
            CALLS.put("wouldFlush(" + a + ")", x -> x.wouldFlush(a));
            CALLS.put("ticksUntil(" + a + ")", x -> x.ticksUntil(a));
            CALLS.put("pair(" + a + ")", x -> x.pair(a));
            CALLS.put("count(" + a + ")", x -> x.count(a));
            CALLS.put("type(" + a + ")", x -> x.type(a));
            CALLS.put("fault(" + a + ")", x -> x.fault(a));
            for (int b : new int[] {-1, 0, 4, 100, 501, 1000}) {
                CALLS.put("write(" + a + ", " + b + ")", x -> x.write(a, b));
                CALLS.put("set(" + a + ", " + b + ")", x -> x.set(a, b));
                CALLS.put("lineOf(" + a + ", " + b + ")", x -> x.lineOf(a, b));
                CALLS.put("placeOf(" + a + ", " + b + ")", x -> x.placeOf(a, b));
            }
        }
        CALLS.put("learn()", BatteryCaches::learn);
        CALLS.put("cut()", BatteryCaches::cut);
        CALLS.put("critical()", BatteryCaches::critical);
        CALLS.put("undo()", BatteryCaches::undo);
        CALLS.put("clearText()", BatteryCaches::clearText);
        CALLS.put("play()", BatteryCaches::play);
    }

    private static BatteryCaches make(String scene) {
        BatteryCaches x = new BatteryCaches();
        SCENES.get(scene).accept(x);
        return x;
    }

    private static boolean isError(int answer) {
        return answer <= INVALID && answer >= MISSING;
    }

    private static String name(String call) {
        return call.substring(0, call.indexOf('('));
    }

    /** All that can be asked without a change, the text as it is told by its fault and its play. */
    private static String all(BatteryCaches x) {
        StringJoiner all = new StringJoiner(" ");
        all.add(Check.seen(x)).add("" + x.count(9)).add("" + x.count(10));
        for (int what = 0; what < 3; what++) {
            all.add("" + x.fault(what));
        }
        return all.add("" + x.play()).add("" + x.battery(0)).add("" + x.lines(2)).toString();
    }

    private static String behindUndos(BatteryCaches x, int undos) {
        for (int i = 0; i < undos; i++) {
            x.undo();
        }
        return all(x);
    }

    private static void constants() {
        Check.sentence("The constants.");
        Check.due("INVALID_ARGUMENT", INVALID, -1000001);
        Check.due("NOT_POSSIBLE", IMPOSSIBLE, -1000002);
        Check.due("LIMIT_REACHED", LIMIT, -1000003);
        Check.due("NOT_FOUND", MISSING, -1000004);
    }

    private static void newObject() {
        Check.sentence("Creates an empty cache behind a full battery.");
        BatteryCaches x = new BatteryCaches();
        Check.due("empty lines", x.lines(0), 255);
        Check.due("charge", x.battery(0), 1000);
        Check.due("capacity", x.battery(1), 1000);
        Check.due("text", x.clearText(), 0);
        Check.due("history", x.undo(), IMPOSSIBLE);
        Check.due("critical", x.critical(), MISSING);
        Check.due("pair", x.pair(0), MISSING);
        Check.due("fault", x.fault(0), MISSING);
    }

    private static void whichCallsAreChanges() {
        Check.sentence("The changes are the calls of read, write, tick, load, learn, cut, flush, set and play that return no error.");
        for (String scene : SCENES.keySet()) {
            for (Map.Entry<String, ToIntFunction<BatteryCaches>> call : CALLS.entrySet()) {
                BatteryCaches x = make(scene);
                int before = x.count(9);
                int answer = call.getValue().applyAsInt(x);
                String told = scene + ", " + call.getKey();
                if (name(call.getKey()).equals("undo")) {
                    Check.due(told, answer, before == 0 ? IMPOSSIBLE : before - 1);
                } else {
                    boolean change = CHANGES.contains(name(call.getKey())) && !isError(answer);
                    Check.due("states behind " + told, x.count(9), change ? Math.min(before + 1, 4) : before);
                }
            }
        }
    }

    private static void errorsChangeNothing() {
        Check.sentence("A call that returns an error changes nothing (and a call that only asks changes nothing either).");
        List<String> mayChange = new ArrayList<>(CHANGES);
        mayChange.addAll(List.of("undo", "type", "clearText"));
        for (String scene : SCENES.keySet()) {
            String[] due = new String[5];
            for (int undos = 0; undos < due.length; undos++) {
                due[undos] = behindUndos(make(scene), undos);
            }
            for (Map.Entry<String, ToIntFunction<BatteryCaches>> call : CALLS.entrySet()) {
                boolean asksOnly = !mayChange.contains(name(call.getKey()));
                for (int undos = 0; undos < due.length; undos += 4) {
                    BatteryCaches x = make(scene);
                    if (isError(call.getValue().applyAsInt(x)) || asksOnly) {
                        Check.dueText("what is seen in '" + scene + "' behind " + call.getKey() + " and " + undos + " undos",
                                behindUndos(x, undos), due[undos]);
                    }
                }
            }
        }
    }

    private static void errorsComeInOrder() {
        Check.sentence("If several errors apply to a call, INVALID_ARGUMENT is returned rather than NOT_POSSIBLE, NOT_POSSIBLE "
                + "rather than LIMIT_REACHED, and LIMIT_REACHED rather than NOT_FOUND.");
        for (String scene : SCENES.keySet()) {
            BatteryCaches x = make(scene);
            Check.invalid("in '" + scene + "'", x.flush(8), x.flush(-1), x.lineOf(8, 1), x.lineOf(7, 5), x.placeOf(64, 2),
                    x.placeOf(63, 4), x.pair(2), x.pair(-1), x.ticksUntil(9), x.type(31), x.type(127), x.fault(3), x.fault(-1));
        }
    }

    private static void fourStates() {
        Check.sentence("A history of at most 4 states is kept: each change records everything before it, and if there are 5 "
                + "states then, the oldest one is dropped.");
        for (int changes = 0; changes <= 9; changes++) {
            BatteryCaches x = new BatteryCaches();
            for (int i = 1; i <= changes; i++) {
                x.set(2, i);
                Check.due("states behind " + i, x.count(9), Math.min(i, 4));
            }
            for (int left = Math.min(changes, 4); left > 0; left--) {
                Check.due("undo of " + changes, x.undo(), left - 1);
                int before = changes - Math.min(changes, 4) + left - 1;
                Check.due("the setting then", x.count(22), before == 0 ? 20 : before);
                Check.due("states", x.count(9), left - 1);
            }
            Check.due("one more undo", x.undo(), IMPOSSIBLE);
        }
        BatteryCaches y = new BatteryCaches();
        for (int i = 1; i <= 40; i++) {
            y.set(2, i);
            y.set(2, 100 + i);
            Check.due("undo in turns with changes", y.undo(), Math.min(i, 3));
            Check.due("the setting", y.count(22), i);
        }
    }

    private static void undoRestoresAll() {
        Check.sentence("Restores the latest state of the history, which is removed from it.");
        Consumer<BatteryCaches> manyCounts = x -> {
            fill(x);
            x.read(0);
            x.set(1, 500);
            x.set(0, 500);
            x.cut();
            x.write(1, 1);
        };
        for (Map.Entry<String, ToIntFunction<BatteryCaches>> call : CALLS.entrySet()) {
            BatteryCaches x = new BatteryCaches();
            BatteryCaches y = new BatteryCaches();
            manyCounts.accept(x);
            manyCounts.accept(y);
            if (!isError(call.getValue().applyAsInt(x)) && CHANGES.contains(name(call.getKey()))) {
                Check.due("undo of " + call.getKey(), x.undo(), 3);
                x.read(1);
                y.read(1);
                Check.dueText("what is seen behind undo of " + call.getKey(), Check.seen(x), Check.seen(y));
            }
        }
        BatteryCaches z = new BatteryCaches();
        manyCounts.accept(z);
        z.undo();
        z.undo();
        Check.due("nothing is lost ahead of the cut", z.count(5), 0);
        Check.due("all are dirty again", z.lines(2), 255);
        z.read(5);
        Check.due("the turn ahead of the cut is followed", z.lineOf(5, 3), 10);
    }

    private static void undoOfNothing() {
        Check.sentence("NOT_POSSIBLE if it is empty.");
        BatteryCaches x = new BatteryCaches();
        Check.due("undo of a new one", x.undo(), IMPOSSIBLE);
        x.write(1, 1);
        Check.due("undo of one change", x.undo(), 0);
        Check.due("undo of no more", x.undo(), IMPOSSIBLE);
        Check.due("all is as at first", x.lines(0), 255);
        x.type('c');
        x.clearText();
        Check.due("texts are no changes", x.undo(), IMPOSSIBLE);
    }

    private static void changesRecordNoText() {
        Check.sentence("Each change records everything before it but the text.");
        BatteryCaches x = Check.typed("t5;");
        x.tick(1);
        x.clearText();
        Check.due("undo", x.undo(), 0);
        Check.due("the text stays empty", x.count(10), 0);
        Check.retype(x, "t7;");
        x.play();
        Check.retype(x, "c;c");
        x.undo();
        Check.due("the text stays as it was typed", x.count(10), 3);
        Check.due("with its fault", x.fault(0), 2);
        Check.due("the ticks do not stay", x.count(0), 0);
    }

    private static void countsAtFirst() {
        Check.sentence("count of a new object: all are 0 but the settings.");
        BatteryCaches x = new BatteryCaches();
        int[] settings = {100, 100, 20, 200};
        for (int what = 0; what <= 10; what++) {
            Check.due("new count(" + what + ")", x.count(what), 0);
        }
        for (int what = 0; what < 4; what++) {
            Check.due("new count(" + (20 + what) + ")", x.count(20 + what), settings[what]);
        }
    }

    private static void countOutOfRange() {
        Check.sentence("count, what: 0 to 10 and 20 to 23; INVALID_ARGUMENT if what is out of range.");
        BatteryCaches x = new BatteryCaches();
        for (int what = 11; what <= 19; what++) {
            Check.invalid("count(" + what + ")", x.count(what));
        }
        for (int bit = 5; bit < 32; bit++) {
            Check.invalid("count of a great one", x.count((1 << bit) + 20));
        }
        Check.invalid("count", x.count(-1), x.count(24), x.count(100), x.count(Integer.MIN_VALUE), x.count(Integer.MAX_VALUE),
                x.count(Integer.MIN_VALUE + 20), x.count(Integer.MAX_VALUE - 19));
    }

    private static void countsOfEachKind() {
        Check.sentence("0: the tick; 1: hits; 2: misses; 3: flushed; 4: went through; 5: lost; 6: cuts; 7: cycles; 8: laid.");
        BatteryCaches x = new BatteryCaches();
        fill(x);
        expect(x, "eight misses", 0, 0, 8, 0, 0, 0, 0, 0, 0);
        x.read(7);
        expect(x, "a hit", 0, 1, 8, 0, 0, 0, 0, 0, 0);
        x.read(60);
        expect(x, "a miss that flushes", 0, 1, 9, 1, 0, 0, 0, 0, 1);
        x.flush(1);
        expect(x, "a flush by hand", 0, 1, 9, 2, 0, 0, 0, 0, 2);
        x.load(400);
        expect(x, "a load", 0, 1, 9, 3, 0, 0, 0, 0, 3);
        x.write(61, 1);
        expect(x, "a write that goes through", 0, 1, 10, 3, 1, 0, 0, 0, 4);
        x.set(1, 500);
        x.tick(2);
        expect(x, "ticks that flush", 2, 1, 10, 7, 1, 0, 0, 0, 8);
        x.set(0, 141);
        x.cut();
        expect(x, "a cut that loses", 2, 1, 10, 7, 1, 1, 1, 0, 8);
        x.set(1, 1);
        x.tick(99);
        x.write(1, 1);
        expect(x, "more ticks", 101, 1, 11, 7, 1, 1, 1, 0, 8);
        x.cut();
        expect(x, "a cut that saves", 101, 1, 11, 8, 1, 1, 2, 0, 9);
        x.learn();
        x.tick(99);
        expect(x, "a cycle", 200, 1, 11, 8, 1, 1, 2, 1, 9);
    }

    private static void expect(BatteryCaches x, String told, int... due) {
        for (int what = 0; what < due.length; what++) {
            Check.due("count(" + what + ") behind " + told, x.count(what), due[what]);
        }
    }

    private static void fiveHundredAndTwelveCalls() {
        Check.sentence("An object is used for at most 512 calls after it has been made.");
        BatteryCaches x = new BatteryCaches();
        for (int i = 0; i < 510; i++) {
            Check.due("write " + i, x.write(i % 64, i), 0);
        }
        Check.due("call 511: the misses", x.count(2), 510);
        Check.due("call 512: the last turn", x.lineOf(509 % 8, 3), 510);
        BatteryCaches y = new BatteryCaches();
        for (int i = 0; i < 60; i++) {
            y.type(i % 2 == 0 ? 'c' : ';');
        }
        for (int i = 0; i < 451; i++) {
            y.play();
        }
        Check.due("call 512: the cuts", y.count(6), 30 * 451);
        BatteryCaches z = new BatteryCaches();
        for (int i = 0; i < 511; i++) {
            z.tick(99);
        }
        Check.due("call 512: the tick", z.count(0), 99 * 511);
    }

    private static void objectsOfTheirOwn() {
        Check.sentence("Nothing is shared by several objects.");
        BatteryCaches x = new BatteryCaches();
        BatteryCaches y = new BatteryCaches();
        fill(x);
        x.set(0, 1);
        x.type('c');
        x.learn();
        Check.dueText("the other one", all(y), all(new BatteryCaches()));
    }
}
