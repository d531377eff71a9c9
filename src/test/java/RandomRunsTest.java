import java.util.Random;

/** Random runs, always the same ones, in which every answer is compared with PlainModel's. */
final class RandomRunsTest {
    private static final int RUNS = 1500;
    private static final int CALLS = 512;
    private static final String[] CHANGES = {"read", "write", "write", "write", "write", "flush", "tick", "load", "load",
        "learn", "cut", "set", "undo"};
    private static final String[] LOOKS = {"lineOf", "placeOf", "battery", "lines", "wouldFlush", "critical", "ticksUntil",
        "pair", "count", "fault", "play", "clearText", "type"};

    private final Random random;
    private final int places;
    private final BatteryCaches cache = new BatteryCaches();
    private final PlainModel model = new PlainModel();
    private final StringBuilder told = new StringBuilder();
    private int calls = 0;
    private boolean same = true;

    private RandomRunsTest(int seed) {
        random = new Random(seed);
        // With few places there are more hits, with many more lines that go.
        places = new int[] {4, 9, 16, 64}[seed % 4];
    }

    public static void main(String[] args) {
        for (int seed = 0; seed < RUNS; seed++) {
            new RandomRunsTest(seed).run(seed);
        }
        Check.end("RandomRunsTest");
    }

    private void run(int seed) {
        while (calls < CALLS && same) {
            int choice = random.nextInt(100);
            if (choice < 45) {
                callAtRandom(CHANGES[random.nextInt(CHANGES.length)]);
            } else if (choice < 92) {
                callAtRandom(LOOKS[random.nextInt(LOOKS.length)]);
            } else if (choice < 96) {
                lookAtAll();
            } else {
                playText();
            }
        }
        if (!same) {
            System.out.println("run " + seed + ":\n" + told);
        }
    }

    private int about(int least, int most) {
        switch (random.nextInt(40)) {
            case 0:
                return least - 1;
            case 1:
                return most + 1;
            case 2:
                return least;
            case 3:
                return most;
            default:
                return least + random.nextInt(most - least + 1);
        }
    }

    private int smallLoad() {
        return random.nextInt(3) == 0 ? about(1, 999) : about(1, 250);
    }

    private void callAtRandom(String name) {
        switch (name) {
            case "read" -> call(name, random.nextInt(30) == 0 ? about(0, 63) : about(0, places - 1), 0);
            case "write" -> call(name, about(0, places - 1), about(0, 999));
            case "flush" -> call(name, about(0, 7), 0);
            case "tick" -> call(name, random.nextInt(2) == 0 ? about(1, 99) : about(1, 9), 0);
            case "load", "wouldFlush" -> call(name, smallLoad(), 0);
            case "set" -> setAtRandom();
            case "lineOf" -> call(name, about(0, 7), about(0, 4));
            case "placeOf" -> call(name, about(0, places - 1), about(0, 3));
            case "battery" -> call(name, about(0, 5), 0);
            case "lines" -> call(name, about(0, 3), 0);
            case "ticksUntil" -> call(name, about(0, 8), 0);
            case "pair" -> call(name, about(0, 1), 0);
            case "count" -> call(name, random.nextInt(2) == 0 ? about(0, 10) : about(20, 23), 0);
            case "fault" -> call(name, about(0, 2), 0);
            case "type" -> call(name, about(32, 126), 0);
            default -> call(name, 0, 0);
        }
    }

    private void setAtRandom() {
        int[] mosts = {500, 500, 200, 500};
        int what = about(0, 3);
        call("set", what, about(0, what < 0 || what > 3 ? 500 : mosts[what]));
    }

    private void lookAtAll() {
        for (int what = 0; what < 6; what++) {
            call("battery", what, 0);
        }
        for (int what = 0; what < 4; what++) {
            call("lines", what, 0);
        }
        for (int what = 0; what < 11; what++) {
            call("count", what, 0);
        }
        int place = random.nextInt(places);
        for (int what = 0; what < 4; what++) {
            call("placeOf", place, what);
        }
        call("critical", 0, 0);
        call("pair", 0, 0);
        call("pair", 1, 0);
        call("ticksUntil", 1, 0);
        call("ticksUntil", 8, 0);
    }

    private void playText() {
        call("clearText", 0, 0);
        int orders = random.nextInt(12);
        StringBuilder text = new StringBuilder();
        for (int i = 0; i < orders; i++) {
            text.append(order());
        }
        if (random.nextInt(3) == 0 && text.length() > 0) {
            spoil(text);
        }
        for (int i = 0; i < text.length(); i++) {
            call("type", text.charAt(i), 0);
        }
        for (int what = 0; what < 3; what++) {
            call("fault", what, 0);
        }
        call("play", 0, 0);
        call("fault", 0, 0);
    }

    private String order() {
        String zeros = random.nextInt(10) == 0 ? "0" : "";
        return switch (random.nextInt(10)) {
            case 0, 1 -> "r" + zeros + Math.max(0, about(0, places - 1)) + ";";
            case 2, 3, 4 -> "w" + zeros + Math.max(0, about(0, places - 1)) + "=" + random.nextInt(1000) + ";";
            case 5 -> "t" + zeros + about(1, random.nextInt(3) == 0 ? 99 : 20) + ";";
            case 6, 7 -> "l" + Math.min(999, smallLoad()) + ";";
            case 8 -> random.nextInt(3) == 0 ? "c;" : "t60;";
            default -> "g;";
        };
    }

    private void spoil(StringBuilder text) {
        int at = random.nextInt(text.length());
        char[] signs = "rwtlcg=;0159 ~-".toCharArray();
        char sign = signs[random.nextInt(signs.length)];
        switch (random.nextInt(3)) {
            case 0 -> text.deleteCharAt(at);
            case 1 -> text.insert(at, sign);
            default -> text.setCharAt(at, sign);
        }
    }

    private void call(String name, int a, int b) {
        if (calls >= CALLS || !same) {
            return;
        }
        calls++;
        int due = model.answer(name, a, b);
        int got = answer(name, a, b);
        told.append(name).append('(').append(a).append(", ").append(b).append(") ").append(got).append('\n');
        same = got == due;
        Check.due(name + "(" + a + ", " + b + ")", got, due);
    }

    private int answer(String name, int a, int b) {
        return switch (name) {
            case "read" -> cache.read(a);
            case "write" -> cache.write(a, b);
            case "flush" -> cache.flush(a);
            case "tick" -> cache.tick(a);
            case "load" -> cache.load(a);
            case "learn" -> cache.learn();
            case "cut" -> cache.cut();
            case "set" -> cache.set(a, b);
            case "lineOf" -> cache.lineOf(a, b);
            case "placeOf" -> cache.placeOf(a, b);
            case "battery" -> cache.battery(a);
            case "lines" -> cache.lines(a);
            case "wouldFlush" -> cache.wouldFlush(a);
            case "critical" -> cache.critical();
            case "ticksUntil" -> cache.ticksUntil(a);
            case "pair" -> cache.pair(a);
            case "count" -> cache.count(a);
            case "undo" -> cache.undo();
            case "type" -> cache.type(a);
            case "clearText" -> cache.clearText();
            case "fault" -> cache.fault(a);
            default -> cache.play();
        };
    }
}
