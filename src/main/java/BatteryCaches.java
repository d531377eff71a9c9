/** A write cache behind a small battery; DOC.md says in numbered promises what each call does. */
public final class BatteryCaches {
    public static final int INVALID_ARGUMENT = -1000001;
    public static final int NOT_POSSIBLE = -1000002;
    public static final int LIMIT_REACHED = -1000003;
    public static final int NOT_FOUND = -1000004;

    private static final int PLACES = 64;
    private static final int LINES = 8;
    private static final int MOST_VALUE = 999;
    private static final int MOST_TICKS = 99;
    private static final int MOST_LOAD = 999;
    private static final int MOST_WAITING = 400;
    private static final int MOST_STATES = 4;
    private static final int MOST_CHARACTERS = 60;
    private static final int MOST_DIGITS = 3;

    private static final int FULL_CAPACITY = 1000;
    private static final int CAPACITY_PER_WEAR = 10;
    private static final int MOST_WEAR = 90;

    private static final int SETTINGS = 4;
    private static final int[] LEAST_SETTING = {1, 0, 0, 1};
    private static final int[] MOST_SETTING = {500, 500, 200, 500};
    private static final int FIRST_LINE_COST = 100;
    private static final int FIRST_CUT_COST = 100;
    private static final int FIRST_RISE = 20;
    private static final int FIRST_FALL = 200;

    // The order matters: what is at least CLEAN is not empty.
    private static final int EMPTY = 0;
    private static final int CLEAN = 1;
    private static final int DIRTY = 2;

    private static final int NO_CYCLE = 0;
    private static final int FALLING = 1;
    private static final int RISING = 2;

    private static final int REASON_NONE = 0;
    private static final int REASON_FORM = 1;
    private static final int REASON_RANGE = 2;
    private static final int REASON_STATE = 3;

    private static final int NONE = -1;

    private final State now = new State();
    private final History history = new History();
    private final Text text = new Text();
    private final Rehearsal rehearsal = new Rehearsal();
    private final Battery trialBattery = new Battery();

    public BatteryCaches() {
    }

    // ---- reads and writes

    public int read(int place) {
        if (!isPlace(place)) {
            return INVALID_ARGUMENT;
        }
        history.keep(now);
        return now.readPlace(place);
    }

    public int write(int place, int value) {
        if (!isPlace(place) || !isWithin(value, 0, MOST_VALUE)) {
            return INVALID_ARGUMENT;
        }
        history.keep(now);
        return now.writePlace(place, value);
    }

    public int flush(int line) {
        if (!isLine(line)) {
            return INVALID_ARGUMENT;
        }
        if (now.kind[line] != DIRTY) {
            return NOT_POSSIBLE;
        }
        history.keep(now);
        now.flushLine(line);
        return now.numberOf(DIRTY);
    }

    // ---- time, battery

    public int tick(int ticks) {
        if (!isWithin(ticks, 1, MOST_TICKS)) {
            return INVALID_ARGUMENT;
        }
        history.keep(now);
        return now.passTicks(ticks);
    }

    public int load(int load) {
        if (!isWithin(load, 1, MOST_LOAD)) {
            return INVALID_ARGUMENT;
        }
        history.keep(now);
        return now.putLoad(load);
    }

    public int learn() {
        if (now.battery.cycle != NO_CYCLE) {
            return NOT_POSSIBLE;
        }
        history.keep(now);
        return now.beginCycle();
    }

    public int cut() {
        history.keep(now);
        return now.cutPower();
    }

    public int set(int what, int value) {
        if (!isSetting(what) || !isWithin(value, LEAST_SETTING[what], MOST_SETTING[what])) {
            return INVALID_ARGUMENT;
        }
        history.keep(now);
        int before = now.battery.setting(what);
        now.battery.changeSetting(what, value);
        return before;
    }

    // ---- what there is

    public int lineOf(int line, int what) {
        if (!isLine(line) || !isWithin(what, 0, 4)) {
            return INVALID_ARGUMENT;
        }
        if (what == 0) {
            return now.kind[line];
        }
        if (now.kind[line] == EMPTY) {
            return NOT_FOUND;
        }
        switch (what) {
            case 1:
                return now.place[line];
            case 2:
                return now.value[line];
            case 3:
                return now.turn[line];
            default:
                return now.linesAhead(line, CLEAN);
        }
    }

    public int placeOf(int place, int what) {
        if (!isPlace(place) || !isWithin(what, 0, 3)) {
            return INVALID_ARGUMENT;
        }
        int line = now.holderOf(place);
        switch (what) {
            case 0:
                return now.disk[place];
            case 1:
                return isLine(line) ? now.value[line] : now.disk[place];
            case 2:
                return isLine(line) ? line : NOT_FOUND;
            default:
                return now.laid[place];
        }
    }

    public int battery(int what) {
        switch (what) {
            case 0:
                return now.battery.charge;
            case 1:
                return now.battery.capacity();
            case 2:
                return now.battery.wear;
            case 3:
                return now.battery.allowance();
            case 4:
                return now.battery.cycle;
            case 5:
                return now.savedByCut();
            default:
                return INVALID_ARGUMENT;
        }
    }

    public int lines(int what) {
        switch (what) {
            case 0:
                return now.setOf(EMPTY);
            case 1:
                return now.setOf(CLEAN);
            case 2:
                return now.setOf(DIRTY);
            case 3:
                return now.lostByCut();
            default:
                return INVALID_ARGUMENT;
        }
    }

    // ---- what would be

    public int wouldFlush(int load) {
        if (!isWithin(load, 1, MOST_LOAD)) {
            return INVALID_ARGUMENT;
        }
        trialBattery.copyFrom(now.battery);
        trialBattery.useUp(load);
        return Math.max(now.numberOf(DIRTY) - trialBattery.allowance(), 0);
    }

    public int critical() {
        int dirty = now.numberOf(DIRTY);
        // Where the charge does not suffice already, settings were changed, and any load flushes.
        int spare = Math.max(now.battery.charge - now.battery.costToSave(dirty), 0);
        return dirty > 0 && spare < MOST_LOAD ? spare + 1 : NOT_FOUND;
    }

    public int ticksUntil(int allowance) {
        if (!isWithin(allowance, 0, LINES)) {
            return INVALID_ARGUMENT;
        }
        trialBattery.copyFrom(now.battery);
        for (int ticks = 0; ticks <= MOST_WAITING; ticks++) {
            if (trialBattery.allowance() >= allowance) {
                return ticks;
            }
            trialBattery.passTick();
        }
        return NOT_FOUND;
    }

    public int pair(int what) {
        if (!isWithin(what, 0, 1)) {
            return INVALID_ARGUMENT;
        }
        int line = now.nearestPair();
        if (!isLine(line)) {
            return NOT_FOUND;
        }
        return what == 0 ? line : now.distanceToDirty(line);
    }

    public int count(int what) {
        switch (what) {
            case 0:
                return now.ticks;
            case 1:
                return now.hits;
            case 2:
                return now.misses;
            case 3:
                return now.flushed;
            case 4:
                return now.wentThrough;
            case 5:
                return now.lost;
            case 6:
                return now.cuts;
            case 7:
                return now.cyclesEnded;
            case 8:
                return now.laidInAll;
            case 9:
                return history.size;
            case 10:
                return text.length;
            default:
                return isSetting(what - 20) ? now.battery.setting(what - 20) : INVALID_ARGUMENT;
        }
    }

    public int undo() {
        if (history.size <= 0) {
            return NOT_POSSIBLE;
        }
        history.restore(now);
        return history.size;
    }

    // ---- texts

    public int type(int character) {
        if (!isWithin(character, 32, 126)) {
            return INVALID_ARGUMENT;
        }
        if (text.length >= MOST_CHARACTERS) {
            return LIMIT_REACHED;
        }
        text.append(character);
        return text.length;
    }

    public int clearText() {
        int before = text.length;
        text.length = 0;
        return before;
    }

    public int fault(int what) {
        if (!isWithin(what, 0, 2)) {
            return INVALID_ARGUMENT;
        }
        rehearsal.run(text, now);
        Order order = rehearsal.order;
        if (order.reason == REASON_NONE || (what == 2 && order.reason == REASON_STATE)) {
            return NOT_FOUND;
        }
        switch (what) {
            case 0:
                return order.start;
            case 1:
                return order.reason;
            default:
                return order.cause;
        }
    }

    public int play() {
        rehearsal.run(text, now);
        if (rehearsal.order.reason != REASON_NONE) {
            return NOT_POSSIBLE;
        }
        history.keep(now);
        State.copy(rehearsal.trial, now);
        return rehearsal.done;
    }

    private static boolean isWithin(int number, int least, int most) {
        return number >= least && number <= most;
    }

    private static boolean isPlace(int place) {
        return place >= 0 && place < PLACES;
    }

    private static boolean isLine(int line) {
        return line >= 0 && line < LINES;
    }

    private static boolean isSetting(int what) {
        return what >= 0 && what < SETTINGS;
    }

    private static void copyRow(int[] from, int[] to) {
        System.arraycopy(from, 0, to, 0, Math.min(from.length, to.length));
    }

    /** The battery and the settings that rule it, without the lines that it is there for. */
    private static final class Battery {
        int charge = FULL_CAPACITY;
        int wear = 0;
        int cycle = NO_CYCLE;
        int lineCost = FIRST_LINE_COST;
        int cutCost = FIRST_CUT_COST;
        int rise = FIRST_RISE;
        int fall = FIRST_FALL;

        void copyFrom(Battery other) {
            charge = other.charge;
            wear = other.wear;
            cycle = other.cycle;
            lineCost = other.lineCost;
            cutCost = other.cutCost;
            rise = other.rise;
            fall = other.fall;
        }

        int setting(int what) {
            switch (what) {
                case 0:
                    return lineCost;
                case 1:
                    return cutCost;
                case 2:
                    return rise;
                default:
                    return fall;
            }
        }

        void changeSetting(int what, int value) {
            switch (what) {
                case 0:
                    lineCost = value;
                    break;
                case 1:
                    cutCost = value;
                    break;
                case 2:
                    rise = value;
                    break;
                default:
                    fall = value;
                    break;
            }
        }

        int capacity() {
            return FULL_CAPACITY - CAPACITY_PER_WEAR * wear;
        }

        int allowance() {
            return cycle == NO_CYCLE ? savable() : 0;
        }

        /** How many lines a cut could save, also while a cycle forbids any to be dirty. */
        int savable() {
            if (charge < cutCost || lineCost < 1) {
                return 0;
            }
            return Math.min((charge - cutCost) / lineCost, LINES);
        }

        int costToSave(int number) {
            return cutCost + number * lineCost;
        }

        void useUp(int amount) {
            charge = Math.max(charge - amount, 0);
        }

        void saveAtCut(int saved) {
            // Below the fixed cost the charge is lost too: useUp stops at 0.
            useUp(costToSave(saved));
            cycle = NO_CYCLE;
        }

        /** Returns whether a learning cycle ended in the tick. */
        boolean passTick() {
            if (cycle == FALLING) {
                fallInCycle();
                return false;
            }
            charge = Math.min(charge + rise, capacity());
            if (cycle == RISING && charge == capacity()) {
                cycle = NO_CYCLE;
                return true;
            }
            return false;
        }

        void fallInCycle() {
            useUp(fall);
            if (charge == 0) {
                wear = Math.min(wear + 1, MOST_WEAR);
                cycle = RISING;
            }
        }
    }

    /** All that a change can change, and so all that the history keeps. */
    private static final class State {
        final Battery battery = new Battery();
        final int[] disk = new int[PLACES];
        final int[] laid = new int[PLACES];
        final int[] kind = new int[LINES];
        final int[] place = new int[LINES];
        final int[] value = new int[LINES];
        final int[] turn = new int[LINES];
        int lastTurn = 0;
        int ticks = 0;
        int hits = 0;
        int misses = 0;
        int flushed = 0;
        int wentThrough = 0;
        int lost = 0;
        int cuts = 0;
        int cyclesEnded = 0;
        int laidInAll = 0;

        static void copy(State from, State to) {
            if (from == null || to == null) {
                return;
            }
            to.battery.copyFrom(from.battery);
            copyRow(from.disk, to.disk);
            copyRow(from.laid, to.laid);
            copyRow(from.kind, to.kind);
            copyRow(from.place, to.place);
            copyRow(from.value, to.value);
            copyRow(from.turn, to.turn);
            to.lastTurn = from.lastTurn;
            to.ticks = from.ticks;
            to.hits = from.hits;
            to.misses = from.misses;
            to.flushed = from.flushed;
            to.wentThrough = from.wentThrough;
            to.lost = from.lost;
            to.cuts = from.cuts;
            to.cyclesEnded = from.cyclesEnded;
            to.laidInAll = from.laidInAll;
        }

        int readPlace(int wanted) {
            int line = lineFor(wanted);
            return isLine(line) ? value[line] : 0;
        }

        int writePlace(int wanted, int newValue) {
            int line = lineFor(wanted);
            if (!isLine(line)) {
                return 0;
            }
            value[line] = newValue;
            if (kind[line] == DIRTY || numberOf(DIRTY) < battery.allowance()) {
                kind[line] = DIRTY;
                return 0;
            }
            layOnDisk(wanted, newValue);
            wentThrough++;
            return 1;
        }

        /** The line that holds the place from now on, be it a hit or a miss. */
        int lineFor(int wanted) {
            int line = holderOf(wanted);
            if (isLine(line)) {
                hits++;
            } else {
                misses++;
                line = lineToTake();
                flushLine(line);
                layIntoLine(line, wanted);
            }
            if (isLine(line)) {
                lastTurn++;
                turn[line] = lastTurn;
            }
            return line;
        }

        int lineToTake() {
            int line = lowestEmpty();
            if (line == NONE) {
                line = lowestTurn(CLEAN);
            }
            if (line == NONE) {
                line = lowestTurn(DIRTY);
            }
            return line;
        }

        void layIntoLine(int line, int wanted) {
            if (isLine(line) && isPlace(wanted)) {
                kind[line] = CLEAN;
                place[line] = wanted;
                value[line] = disk[wanted];
            }
        }

        /** Does nothing to a line that is as the disk is already. */
        void flushLine(int line) {
            if (isLine(line) && kind[line] == DIRTY) {
                kind[line] = CLEAN;
                layOnDisk(place[line], value[line]);
                flushed++;
            }
        }

        void layOnDisk(int wanted, int newValue) {
            if (isPlace(wanted)) {
                disk[wanted] = newValue;
                laid[wanted]++;
                laidInAll++;
            }
        }

        int passTicks(int number) {
            int flushedBefore = flushed;
            for (int i = 0; i < number; i++) {
                ticks++;
                if (battery.passTick()) {
                    cyclesEnded++;
                }
                flushLowest(tooMany());
            }
            return flushed - flushedBefore;
        }

        int putLoad(int load) {
            battery.useUp(load);
            return flushLowest(tooMany());
        }

        int beginCycle() {
            battery.cycle = FALLING;
            return flushLowest(tooMany());
        }

        int cutPower() {
            int saved = savedByCut();
            flushLowest(saved);
            battery.saveAtCut(saved);
            int lostNow = numberOf(DIRTY);
            for (int line = 0; line < LINES; line++) {
                kind[line] = EMPTY;
            }
            lost += lostNow;
            cuts++;
            return lostNow;
        }

        int tooMany() {
            return Math.max(numberOf(DIRTY) - battery.allowance(), 0);
        }

        int flushLowest(int number) {
            for (int i = 0; i < number; i++) {
                flushLine(lowestTurn(DIRTY));
            }
            return number;
        }

        int savedByCut() {
            return Math.min(numberOf(DIRTY), battery.savable());
        }

        int lostByCut() {
            int saved = savedByCut();
            int bits = 0;
            for (int line = 0; line < LINES; line++) {
                if (kind[line] == DIRTY && linesAhead(line, DIRTY) >= saved) {
                    bits |= 1 << line;
                }
            }
            return bits;
        }

        int holderOf(int wanted) {
            for (int line = 0; line < LINES; line++) {
                if (kind[line] != EMPTY && place[line] == wanted) {
                    return line;
                }
            }
            return NONE;
        }

        int lowestEmpty() {
            for (int line = 0; line < LINES; line++) {
                if (kind[line] == EMPTY) {
                    return line;
                }
            }
            return NONE;
        }

        int lowestTurn(int wantedKind) {
            int best = NONE;
            int bestTurn = 0;
            for (int line = 0; line < LINES; line++) {
                if (kind[line] == wantedKind && (best == NONE || turn[line] < bestTurn)) {
                    best = line;
                    bestTurn = turn[line];
                }
            }
            return best;
        }

        /** How many lines that are at least of this kind have lower turns than the line. */
        int linesAhead(int line, int leastKind) {
            int number = 0;
            for (int other = 0; isLine(line) && other < LINES; other++) {
                if (kind[other] >= leastKind && turn[other] < turn[line]) {
                    number++;
                }
            }
            return number;
        }

        int numberOf(int wantedKind) {
            return Integer.bitCount(setOf(wantedKind));
        }

        int setOf(int wantedKind) {
            int bits = 0;
            for (int line = 0; line < LINES; line++) {
                if (kind[line] == wantedKind) {
                    bits |= 1 << line;
                }
            }
            return bits;
        }

        /** The dirty line nearest to another dirty one, or NONE where there are no two. */
        int nearestPair() {
            int best = NONE;
            int bestDistance = PLACES;
            for (int line = 0; line < LINES; line++) {
                int distance = kind[line] == DIRTY ? distanceToDirty(line) : PLACES;
                boolean tie = distance == bestDistance && isLine(best) && turn[line] < turn[best];
                if (distance < bestDistance || tie) {
                    best = line;
                    bestDistance = distance;
                }
            }
            return best;
        }

        /** PLACES, which is farther than any place, where no other line is dirty. */
        int distanceToDirty(int line) {
            int least = PLACES;
            for (int other = 0; isLine(line) && other < LINES; other++) {
                if (other != line && kind[other] == DIRTY) {
                    least = Math.min(least, Math.abs(place[other] - place[line]));
                }
            }
            return least;
        }
    }

    /** The states before the latest changes, the oldest first, in rows that are used again. */
    private static final class History {
        final State[] states = new State[MOST_STATES];
        int size = 0;

        History() {
            for (int i = 0; i < MOST_STATES; i++) {
                states[i] = new State();
            }
        }

        void keep(State now) {
            if (size >= MOST_STATES) {
                dropOldest();
            }
            if (isWithin(size, 0, MOST_STATES - 1)) {
                State.copy(now, states[size]);
                size++;
            }
        }

        void restore(State now) {
            if (isWithin(size, 1, MOST_STATES)) {
                size--;
                State.copy(states[size], now);
            }
        }

        void dropOldest() {
            State oldest = states[0];
            for (int i = 1; i < MOST_STATES; i++) {
                states[i - 1] = states[i];
            }
            states[MOST_STATES - 1] = oldest;
            size = MOST_STATES - 1;
        }
    }

    private static final class Text {
        final int[] characters = new int[MOST_CHARACTERS];
        int length = 0;

        void append(int character) {
            if (isWithin(length, 0, MOST_CHARACTERS - 1)) {
                characters[length] = character;
                length++;
            }
        }

        /** NONE, which is no character, behind the end. */
        int at(int position) {
            boolean inside = position >= 0 && position < length && position < MOST_CHARACTERS;
            return inside ? characters[position] : NONE;
        }
    }

    /** One order as it is read from the text, and what is wrong with it. */
    private static final class Order {
        int start = 0;
        int next = 0;
        int letter = NONE;
        int number = 0;
        int newValue = 0;
        int reason = REASON_NONE;
        int cause = 0;

        void beginText() {
            next = 0;
            reason = REASON_NONE;
        }

        /** To be called as long as there is no reason: the first fault is the text's. */
        void readNext(Text text) {
            start = next;
            if (!hasForm(text)) {
                reason = REASON_FORM;
                cause = next - start;
            } else if (!isInRange()) {
                reason = REASON_RANGE;
                cause = number;
            }
        }

        /** Leaves next behind the order, or where it breaks off. */
        boolean hasForm(Text text) {
            letter = text.at(next);
            switch (letter) {
                case 'r':
                case 't':
                case 'l':
                    next++;
                    number = readNumber(text);
                    return number != NONE && readSign(text, ';');
                case 'w':
                    next++;
                    return hasFormOfWrite(text);
                case 'c':
                case 'g':
                    next++;
                    return readSign(text, ';');
                default:
                    return false;
            }
        }

        boolean hasFormOfWrite(Text text) {
            number = readNumber(text);
            if (number == NONE || !readSign(text, '=')) {
                return false;
            }
            newValue = readNumber(text);
            return newValue != NONE && readSign(text, ';');
        }

        int readNumber(Text text) {
            int digits = 0;
            int read = 0;
            while (digits < MOST_DIGITS && isWithin(text.at(next), '0', '9')) {
                read = 10 * read + text.at(next) - '0';
                next++;
                digits++;
            }
            return digits == 0 ? NONE : read;
        }

        boolean readSign(Text text, int sign) {
            if (text.at(next) != sign) {
                return false;
            }
            next++;
            return true;
        }

        /** The value of a write needs no test: no three digits are out of its range. */
        boolean isInRange() {
            switch (letter) {
                case 'r':
                case 'w':
                    return isPlace(number);
                case 't':
                    return isWithin(number, 1, MOST_TICKS);
                case 'l':
                    return isWithin(number, 1, MOST_LOAD);
                default:
                    return true;
            }
        }
    }

    /** The text's orders, done on a trial state as far as they are possible. */
    private static final class Rehearsal {
        final State trial = new State();
        final Order order = new Order();
        int done = 0;

        /** Leaves the order's reason at REASON_NONE if the text has no fault. */
        void run(Text text, State now) {
            State.copy(now, trial);
            order.beginText();
            done = 0;
            for (int i = 0; i < MOST_CHARACTERS && order.next < text.length; i++) {
                order.readNext(text);
                if (order.reason == REASON_NONE && !isPossible()) {
                    order.reason = REASON_STATE;
                }
                if (order.reason != REASON_NONE) {
                    return;
                }
                perform();
                done++;
            }
        }

        /** Of all orders only the beginning of a cycle depends on the state. */
        boolean isPossible() {
            return order.letter != 'g' || trial.battery.cycle == NO_CYCLE;
        }

        void perform() {
            switch (order.letter) {
                case 'r':
                    trial.readPlace(order.number);
                    break;
                case 'w':
                    trial.writePlace(order.number, order.newValue);
                    break;
                case 't':
                    trial.passTicks(order.number);
                    break;
                case 'l':
                    trial.putLoad(order.number);
                    break;
                case 'c':
                    trial.cutPower();
                    break;
                default:
                    trial.beginCycle();
                    break;
            }
        }
    }
}
