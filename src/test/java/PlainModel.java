import java.util.ArrayList;
import java.util.Comparator;
import java.util.HashMap;
import java.util.LinkedList;
import java.util.List;
import java.util.Map;
import java.util.regex.Matcher;
import java.util.regex.Pattern;

/**
 * The document once more, written another way than the class: what would be is found by doing it on
 * a copy, texts are read by patterns, and the history holds whole copies. Only for tests.
 */
final class PlainModel {
    private static final int INVALID = -1000001;
    private static final int IMPOSSIBLE = -1000002;
    private static final int LIMIT = -1000003;
    private static final int MISSING = -1000004;
    private static final int[][] RANGES = {{1, 500}, {0, 500}, {0, 200}, {1, 500}};
    private static final Pattern ORDER = Pattern.compile("[rtl](\\d{1,3});|w(\\d{1,3})=\\d{1,3};|[cg];");

    private static final class Line {
        int place;
        int value;
        int turn;
        boolean dirty;

        Line copy() {
            Line line = new Line();
            line.place = place;
            line.value = value;
            line.turn = turn;
            line.dirty = dirty;
            return line;
        }
    }

    private Map<Integer, Integer> disk = new HashMap<>();
    private Map<Integer, Integer> laid = new HashMap<>();
    private Line[] line = new Line[8];
    private int[] counts = new int[9];
    private int[] settings = {100, 100, 20, 200};
    private int charge = 1000;
    private int wear;
    private String cycle = "none";
    private int turns;
    private LinkedList<PlainModel> past = new LinkedList<>();
    private String text = "";

    private PlainModel copy() {
        PlainModel copy = new PlainModel();
        copy.take(this);
        return copy;
    }

    private void take(PlainModel from) {
        disk = new HashMap<>(from.disk);
        laid = new HashMap<>(from.laid);
        for (int k = 0; k < 8; k++) {
            line[k] = from.line[k] == null ? null : from.line[k].copy();
        }
        counts = from.counts.clone();
        settings = from.settings.clone();
        charge = from.charge;
        wear = from.wear;
        cycle = from.cycle;
        turns = from.turns;
    }

    private void remember() {
        past.addLast(copy());
        if (past.size() == 5) {
            past.removeFirst();
        }
    }

    private List<Integer> dirtyByTurn() {
        List<Integer> dirty = new ArrayList<>();
        for (int k = 0; k < 8; k++) {
            if (line[k] != null && line[k].dirty) {
                dirty.add(k);
            }
        }
        dirty.sort(Comparator.comparingInt(k -> line[k].turn));
        return dirty;
    }

    private int allowance() {
        if (!cycle.equals("none")) {
            return 0;
        }
        return Math.max(0, Math.min(8, Math.floorDiv(charge - settings[1], settings[0])));
    }

    private int capacity() {
        return 1000 - 10 * wear;
    }

    private void lay(int place, int value) {
        disk.put(place, value);
        laid.merge(place, 1, Integer::sum);
        counts[8]++;
    }

    private void clean(int k) {
        lay(line[k].place, line[k].value);
        line[k].dirty = false;
        counts[3]++;
    }

    private int cleanTooMany() {
        int number = 0;
        while (dirtyByTurn().size() > allowance()) {
            clean(dirtyByTurn().get(0));
            number++;
        }
        return number;
    }

    private int where(int place) {
        for (int k = 0; k < 8; k++) {
            if (line[k] != null && line[k].place == place) {
                return k;
            }
        }
        return MISSING;
    }

    private int choose() {
        List<Integer> all = new ArrayList<>(List.of(0, 1, 2, 3, 4, 5, 6, 7));
        all.sort(Comparator.comparingInt((Integer k) -> line[k] == null ? 0 : line[k].dirty ? 2 : 1)
                .thenComparingInt(k -> line[k] == null ? k : line[k].turn));
        return all.get(0);
    }

    private Line touch(int place) {
        int k = where(place);
        if (k >= 0) {
            counts[1]++;
        } else {
            counts[2]++;
            k = choose();
            if (line[k] != null && line[k].dirty) {
                clean(k);
            }
            line[k] = new Line();
            line[k].place = place;
            line[k].value = disk.getOrDefault(place, 0);
        }
        line[k].turn = ++turns;
        return line[k];
    }

    private int doWrite(int place, int value) {
        Line hit = touch(place);
        hit.value = value;
        if (hit.dirty || dirtyByTurn().size() < allowance()) {
            hit.dirty = true;
            return 0;
        }
        lay(place, value);
        counts[4]++;
        return 1;
    }

    private int doTicks(int ticks) {
        int number = 0;
        for (int i = 0; i < ticks; i++) {
            counts[0]++;
            switch (cycle) {
                case "falls" -> {
                    charge = Math.max(0, charge - settings[3]);
                    if (charge == 0) {
                        wear = Math.min(90, wear + 1);
                        cycle = "rises";
                    }
                }
                case "rises" -> {
                    charge = Math.min(capacity(), charge + settings[2]);
                    if (charge == capacity()) {
                        cycle = "none";
                        counts[7]++;
                    }
                }
                default -> charge = Math.min(capacity(), charge + settings[2]);
            }
            number += cleanTooMany();
        }
        return number;
    }

    private int doLoad(int load) {
        charge = Math.max(0, charge - load);
        return cleanTooMany();
    }

    private int doLearn() {
        cycle = "falls";
        return cleanTooMany();
    }

    private int doCut() {
        if (charge < settings[1]) {
            charge = 0;
        } else {
            charge -= settings[1];
            while (charge >= settings[0] && !dirtyByTurn().isEmpty()) {
                charge -= settings[0];
                clean(dirtyByTurn().get(0));
            }
        }
        int lost = dirtyByTurn().size();
        line = new Line[8];
        cycle = "none";
        counts[5] += lost;
        counts[6]++;
        return lost;
    }

    /** Position, reason and cause of the fault, or none of them; does the orders ahead of it here. */
    private List<Integer> doOrders() {
        int from = 0;
        while (from < text.length()) {
            Matcher order = ORDER.matcher(text).region(from, text.length());
            if (!order.lookingAt()) {
                return List.of(from, 1, breaksOff(text.substring(from)));
            }
            String number = order.group(1) != null ? order.group(1) : order.group(2);
            int n = number == null ? 0 : Integer.parseInt(number);
            char letter = text.charAt(from);
            if ((letter == 'r' || letter == 'w') && n > 63 || letter == 't' && (n < 1 || n > 99) || letter == 'l' && n < 1) {
                return List.of(from, 2, n);
            }
            if (letter == 'g' && !cycle.equals("none")) {
                return List.of(from, 3, MISSING);
            }
            switch (letter) {
                case 'r' -> touch(n);
                case 'w' -> doWrite(n, Integer.parseInt(order.group().replaceAll(".*=|;", "")));
                case 't' -> doTicks(n);
                case 'l' -> doLoad(n);
                case 'c' -> doCut();
                default -> doLearn();
            }
            from = order.end();
        }
        return List.of();
    }

    /** The length of the longest start of the rest that could still become an order. */
    private static int breaksOff(String rest) {
        for (int length = 0; length < rest.length(); length++) {
            Matcher matcher = ORDER.matcher(rest.substring(0, length + 1));
            if (!matcher.matches() && !matcher.hitEnd()) {
                return length;
            }
        }
        return rest.length();
    }

    private static boolean out(int number, int least, int most) {
        return number < least || number > most;
    }

    int answer(String call, int a, int b) {
        switch (call) {
            case "read": case "write": case "flush": case "tick": case "load": case "learn": case "cut": case "set":
                return change(call, a, b);
            case "lineOf":
                return lineOf(a, b);
            case "placeOf":
                return placeOf(a, b);
            case "battery":
                return out(a, 0, 5) ? INVALID
                        : new int[] {charge, capacity(), wear, allowance(), List.of("none", "falls", "rises").indexOf(cycle), saved()}[a];
            case "lines":
                return out(a, 0, 3) ? INVALID : lines(a);
            case "wouldFlush":
                return out(a, 1, 999) ? INVALID : copy().doLoad(a);
            case "critical":
                for (int load = 1; load <= 999; load++) {
                    if (copy().doLoad(load) > 0) {
                        return load;
                    }
                }
                return MISSING;
            case "ticksUntil":
                return out(a, 0, 8) ? INVALID : ticksUntil(a);
            case "pair":
                return out(a, 0, 1) ? INVALID : pair(a);
            case "count":
                return count(a);
            default:
                return textAnswer(call, a);
        }
    }

    private int change(String call, int a, int b) {
        boolean invalid = switch (call) {
            case "read" -> out(a, 0, 63);
            case "write" -> out(a, 0, 63) || out(b, 0, 999);
            case "flush" -> out(a, 0, 7);
            case "tick" -> out(a, 1, 99);
            case "load" -> out(a, 1, 999);
            case "set" -> out(a, 0, 3) || out(b, RANGES[a][0], RANGES[a][1]);
            default -> false;
        };
        if (invalid) {
            return INVALID;
        }
        if (call.equals("flush") && !dirtyByTurn().contains(a) || call.equals("learn") && !cycle.equals("none")) {
            return IMPOSSIBLE;
        }
        remember();
        switch (call) {
            case "read":
                return touch(a).value;
            case "write":
                return doWrite(a, b);
            case "flush":
                clean(a);
                return dirtyByTurn().size();
            case "tick":
                return doTicks(a);
            case "load":
                return doLoad(a);
            case "learn":
                return doLearn();
            case "cut":
                return doCut();
            default:
                int was = settings[a];
                settings[a] = b;
                return was;
        }
    }

    private int lineOf(int k, int what) {
        if (out(k, 0, 7) || out(what, 0, 4)) {
            return INVALID;
        }
        if (line[k] == null) {
            return what == 0 ? 0 : MISSING;
        }
        int ahead = 0;
        for (Line other : line) {
            ahead += other != null && other.turn < line[k].turn ? 1 : 0;
        }
        return new int[] {line[k].dirty ? 2 : 1, line[k].place, line[k].value, line[k].turn, ahead}[what];
    }

    private int placeOf(int place, int what) {
        if (out(place, 0, 63) || out(what, 0, 3)) {
            return INVALID;
        }
        return new int[] {disk.getOrDefault(place, 0), copy().touch(place).value, where(place), laid.getOrDefault(place, 0)}[what];
    }

    private int saved() {
        return dirtyByTurn().size() - copy().doCut();
    }

    private int lines(int what) {
        int set = 0;
        for (int k = 0; k < 8; k++) {
            int kind = line[k] == null ? 0 : line[k].dirty ? 2 : 1;
            boolean member = what < 3 ? kind == what : kind == 2 && dirtyByTurn().indexOf(k) >= saved();
            set += member ? 1 << k : 0;
        }
        return set;
    }

    private int ticksUntil(int allowance) {
        PlainModel trial = copy();
        for (int ticks = 0; ticks <= 400; ticks++) {
            if (trial.allowance() >= allowance) {
                return ticks;
            }
            trial.doTicks(1);
        }
        return MISSING;
    }

    private int pair(int what) {
        List<Integer> dirty = dirtyByTurn();
        for (int distance = 1; distance < 64; distance++) {
            for (int k : dirty) {
                for (int other : dirty) {
                    if (Math.abs(line[k].place - line[other].place) == distance) {
                        return what == 0 ? k : distance;
                    }
                }
            }
        }
        return MISSING;
    }

    private int count(int what) {
        if (what == 9) {
            return past.size();
        }
        if (what == 10) {
            return text.length();
        }
        if (!out(what, 20, 23)) {
            return settings[what - 20];
        }
        return out(what, 0, 8) ? INVALID : counts[what];
    }

    private int textAnswer(String call, int a) {
        switch (call) {
            case "undo":
                if (past.isEmpty()) {
                    return IMPOSSIBLE;
                }
                take(past.removeLast());
                return past.size();
            case "type":
                if (out(a, 32, 126)) {
                    return INVALID;
                }
                if (text.length() == 60) {
                    return LIMIT;
                }
                text += (char) a;
                return text.length();
            case "clearText":
                int length = text.length();
                text = "";
                return length;
            case "fault":
                if (out(a, 0, 2)) {
                    return INVALID;
                }
                List<Integer> fault = rehearsed().doOrders();
                return fault.isEmpty() ? MISSING : fault.get(a);
            case "play":
                if (!rehearsed().doOrders().isEmpty()) {
                    return IMPOSSIBLE;
                }
                remember();
                doOrders();
                return (int) text.chars().filter(c -> c == ';').count();
            default:
                throw new IllegalStateException("no such call: " + call);
        }
    }

    private PlainModel rehearsed() {
        PlainModel trial = copy();
        trial.text = text;
        return trial;
    }
}
