/** Boundary cases of battery and time (promises 5 to 9, 12, 14 to 16): a test for each sentence that names one. */
final class EdgesOfBatteryTest {
    private static final int MISSING = BatteryCaches.NOT_FOUND;
    private static final int IMPOSSIBLE = BatteryCaches.NOT_POSSIBLE;

    public static void main(String[] args) {
        fullAtFirst();
        allowanceEdges();
        allowanceInCycle();
        batteryOutOfRange();
        chargeRisesToCapacity();
        oneTooManyAtTick();
        lowestTurnFirstAtTick();
        tickOutOfRange();
        loadToZero();
        loadFlushes();
        loadOutOfRange();
        learnFlushesAll();
        learnWhileOneRuns();
        cycleFallsToZero();
        cycleRisesToCapacity();
        cycleInOneCall();
        wearAtMost();
        settingsInCycle();
        cutSaves();
        cutAtTheFixedCost();
        cutSavesLowestTurns();
        cutEmptiesLines();
        cutEndsCycle();
        nothingIsLost();
        settingRanges();
        settingFlushesNothing();
        wouldBeSaved();
        wouldFlushAsLoad();
        wouldFlushOutOfRange();
        criticalEdges();
        ticksUntilEdges();
        ticksUntilInCycle();
        ticksUntilOutOfRange();
        Check.end("EdgesOfBatteryTest");
    }

    /** A battery of this charge with no dirty lines, and settings 0 and 1. */
    private static BatteryCaches charged(int charge, int lineCost, int cutCost) {
        BatteryCaches x = new BatteryCaches();
        x.set(0, lineCost);
        x.set(1, cutCost);
        Check.discharge(x, charge);
        return x;
    }

    /** So many dirty lines, with a charge and settings that need not suffice for them. */
    private static BatteryCaches dirtyAt(int lines, int charge, int lineCost, int cutCost) {
        BatteryCaches x = new BatteryCaches();
        x.set(0, 1);
        x.set(1, 0);
        Check.discharge(x, charge);
        for (int line = 0; line < lines; line++) {
            x.write(line, 10 + line);
        }
        x.set(0, lineCost);
        x.set(1, cutCost);
        return x;
    }

    private static void pass(BatteryCaches x, int ticks) {
        for (int left = ticks; left > 0; left -= 99) {
            x.tick(Math.min(left, 99));
        }
    }

    private static void fullAtFirst() {
        Check.sentence("At first the charge is 1000, the wear 0.");
        int[] due = {1000, 1000, 0, 8, 0, 0};
        BatteryCaches x = new BatteryCaches();
        for (int what = 0; what < due.length; what++) {
            Check.due("new battery(" + what + ")", x.battery(what), due[what]);
        }
    }

    private static void allowanceEdges() {
        Check.sentence("At most (charge less setting 1) / setting 0, rounded down, but at least 0 and at most 8.");
        int[][] due = {{0, 100, 100, 0}, {99, 100, 100, 0}, {100, 100, 100, 0}, {199, 100, 100, 0}, {200, 100, 100, 1},
            {299, 100, 100, 1}, {899, 100, 100, 7}, {900, 100, 100, 8}, {999, 100, 100, 8}, {1000, 100, 100, 8},
            {0, 1, 0, 0}, {1, 1, 0, 1}, {7, 1, 0, 7}, {8, 1, 0, 8}, {9, 1, 0, 8}, {1000, 1, 0, 8},
            {0, 1, 500, 0}, {0, 500, 500, 0}, {499, 1, 500, 0}, {500, 1, 500, 0}, {501, 1, 500, 1}, {508, 1, 500, 8},
            {999, 500, 500, 0}, {1000, 500, 500, 1}, {1000, 500, 0, 2}, {499, 500, 0, 0}, {500, 500, 0, 1}};
        for (int[] row : due) {
            BatteryCaches x = charged(row[0], row[1], row[2]);
            Check.due("charge", x.battery(0), row[0]);
            Check.due("allowance at " + row[0] + " with " + row[1] + " and " + row[2], x.battery(3), row[3]);
        }
    }

    private static void allowanceInCycle() {
        Check.sentence("While a learning cycle runs, it is 0.");
        BatteryCaches x = new BatteryCaches();
        x.learn();
        Check.due("full", x.battery(0), 1000);
        Check.due("allowance", x.battery(3), 0);
        x.tick(54);
        Check.due("one tick ahead of the end", x.battery(0), 980);
        Check.due("allowance", x.battery(3), 0);
        Check.due("write", x.write(1, 1), 1);
        x.tick(1);
        Check.due("allowance behind the end", x.battery(3), 8);
        Check.due("write", x.write(1, 2), 0);
    }

    private static void batteryOutOfRange() {
        Check.sentence("battery, what: 0 to 5; INVALID_ARGUMENT if what is out of range.");
        BatteryCaches x = new BatteryCaches();
        Check.invalid("battery", x.battery(-1), x.battery(6), x.battery(Integer.MIN_VALUE), x.battery(Integer.MAX_VALUE));
    }

    private static void chargeRisesToCapacity() {
        Check.sentence("Otherwise the charge rises by setting 2, to the capacity at most.");
        int[][] due = {{0, 20, 20}, {979, 20, 999}, {980, 20, 1000}, {981, 20, 1000}, {999, 20, 1000}, {1000, 20, 1000},
            {0, 0, 0}, {999, 0, 999}, {1, 200, 201}, {999, 1, 1000}, {1000, 200, 1000}};
        for (int[] row : due) {
            BatteryCaches x = new BatteryCaches();
            Check.discharge(x, row[0]);
            x.set(2, row[1]);
            x.tick(1);
            Check.due("charge from " + row[0] + " by " + row[1], x.battery(0), row[2]);
        }
        BatteryCaches worn = new BatteryCaches();
        worn.learn();
        worn.tick(55);
        worn.load(1);
        worn.tick(1);
        Check.due("the capacity of a worn one", worn.battery(0), 990);
        worn.tick(99);
        Check.due("and no more", worn.battery(0), 990);
    }

    private static void oneTooManyAtTick() {
        Check.sentence("Then, while more lines are dirty than allowed, one is flushed.");
        BatteryCaches x = dirtyAt(5, 600, 100, 100);
        x.set(2, 0);
        Check.due("tick with as many as allowed", x.tick(9), 0);
        x.set(0, 101);
        Check.due("tick with one too many", x.tick(1), 1);
        Check.due("no more then", x.tick(1), 0);
        Check.due("four are left", x.lines(2), 30);
        BatteryCaches y = dirtyAt(5, 590, 100, 100);
        y.set(2, 10);
        Check.due("four are allowed", y.battery(3), 4);
        Check.due("but the charge rises first", y.tick(1), 0);
        BatteryCaches z = dirtyAt(5, 590, 100, 100);
        z.set(2, 9);
        Check.due("not enough", z.tick(1), 1);
        BatteryCaches all = dirtyAt(8, 8, 500, 500);
        Check.due("all eight", all.tick(1), 8);
        Check.due("none is left", all.lines(2), 0);
        Check.due("flushed", all.count(3), 8);
    }

    private static void lowestTurnFirstAtTick() {
        Check.sentence("That with the lowest turn first.");
        BatteryCaches x = dirtyAt(8, 1000, 1, 500);
        int[] order = {5, 2, 7, 0, 6, 1, 4, 3};
        int[] costForOneLess = {71, 83, 100, 125, 166, 250, 500};
        for (int place : order) {
            x.read(place);
        }
        int left = 255;
        for (int i = 0; i < costForOneLess.length; i++) {
            x.set(0, costForOneLess[i]);
            Check.due("tick " + i, x.tick(1), 1);
            left -= 1 << order[i];
            Check.due("left behind tick " + i, x.lines(2), left);
        }
    }

    private static void tickOutOfRange() {
        Check.sentence("ticks: 1 to 99; INVALID_ARGUMENT if ticks is out of range.");
        BatteryCaches x = new BatteryCaches();
        Check.due("tick(1)", x.tick(1), 0);
        Check.due("tick(99)", x.tick(99), 0);
        Check.invalid("tick", x.tick(0), x.tick(100), x.tick(-1), x.tick(Integer.MIN_VALUE), x.tick(Integer.MAX_VALUE));
        Check.due("the tick", x.count(0), 100);
    }

    private static void loadToZero() {
        Check.sentence("The charge falls by it, to 0 at least.");
        int[][] due = {{1000, 1, 999}, {1000, 999, 1}, {500, 499, 1}, {500, 500, 0}, {500, 501, 0}, {500, 999, 0},
            {1, 1, 0}, {0, 1, 0}, {0, 999, 0}};
        for (int[] row : due) {
            BatteryCaches x = new BatteryCaches();
            Check.discharge(x, row[0]);
            x.load(row[1]);
            Check.due("charge " + row[0] + " less " + row[1], x.battery(0), row[2]);
        }
    }

    private static void loadFlushes() {
        Check.sentence("Then lines are flushed as at a tick, as long as too many are dirty.");
        for (int lines = 0; lines <= 8; lines++) {
            for (int left = 0; left <= lines; left++) {
                BatteryCaches x = dirtyAt(lines, 1000, 100, 100);
                int load = left == lines ? 900 - 100 * left : 801 - 100 * left;
                Check.due("of " + lines + " by " + load, x.load(Math.max(load, 1)), lines - left);
            }
        }
    }

    private static void loadOutOfRange() {
        Check.sentence("load: 1 to 999; INVALID_ARGUMENT if load is out of range.");
        BatteryCaches x = new BatteryCaches();
        Check.due("load(1)", x.load(1), 0);
        Check.invalid("load", x.load(0), x.load(1000), x.load(-1), x.load(Integer.MIN_VALUE), x.load(Integer.MAX_VALUE));
        Check.due("the charge", x.battery(0), 999);
        Check.due("load(999)", x.load(999), 0);
        Check.due("the charge", x.battery(0), 0);
    }

    private static void learnFlushesAll() {
        Check.sentence("Lines that are dirty are flushed at once (the allowance is 0).");
        for (int lines = 0; lines <= 8; lines++) {
            BatteryCaches x = Check.dirty(lines);
            Check.due("learn with " + lines, x.learn(), lines);
            Check.due("they are clean", x.lines(1), (1 << lines) - 1);
            Check.due("flushed", x.count(3), lines);
            Check.due("the charge has not fallen yet", x.battery(0), 1000);
        }
        BatteryCaches y = Check.dirty(3);
        y.flush(1);
        Check.due("clean ones do not count", y.learn(), 2);
    }

    private static void learnWhileOneRuns() {
        Check.sentence("NOT_POSSIBLE if one runs.");
        BatteryCaches x = new BatteryCaches();
        Check.due("learn", x.learn(), 0);
        Check.due("at once again", x.learn(), IMPOSSIBLE);
        x.tick(4);
        Check.due("while it falls", x.learn(), IMPOSSIBLE);
        x.tick(1);
        Check.due("when it has learnt", x.learn(), IMPOSSIBLE);
        x.tick(49);
        Check.due("in the tick before the end", x.learn(), IMPOSSIBLE);
        x.tick(1);
        Check.due("when it has ended", x.learn(), 0);
        x.cut();
        Check.due("behind a cut", x.learn(), 0);
        x.undo();
        Check.due("behind an undo", x.learn(), 0);
    }

    private static void cycleFallsToZero() {
        Check.sentence("In each tick the charge falls by setting 3, until it is 0 behind a tick.");
        int[][] due = {{1000, 200, 5}, {1000, 500, 2}, {999, 500, 2}, {1000, 499, 3}, {1, 500, 1}, {1, 1, 1}, {0, 1, 1},
            {0, 500, 1}, {99, 1, 99}, {201, 200, 2}, {200, 200, 1}, {199, 200, 1}};
        for (int[] row : due) {
            BatteryCaches x = new BatteryCaches();
            Check.discharge(x, row[0]);
            x.set(3, row[1]);
            x.learn();
            for (int tick = 1; tick <= row[2]; tick++) {
                Check.due("it falls from " + row[0] + " by " + row[1], x.battery(4), 1);
                Check.due("it has not learnt", x.battery(2), 0);
                x.tick(1);
                Check.due("charge in tick " + tick, x.battery(0), Math.max(row[0] - tick * row[1], 0));
            }
            Check.due("it learns in this tick", x.battery(2), 1);
            Check.due("the capacity", x.battery(1), 990);
            Check.due("it does not rise in this tick", x.battery(0), 0);
            Check.due("it rises from the next one on", x.battery(4), 2);
            x.tick(1);
            Check.due("by setting 2", x.battery(0), 20);
            Check.due("it learns no more", x.battery(2), 1);
        }
    }

    private static void cycleRisesToCapacity() {
        Check.sentence("To the capacity at most, until it is the capacity behind a tick: then the cycle ends.");
        int[][] due = {{1, 990}, {10, 99}, {198, 5}, {197, 6}, {199, 5}, {200, 5}, {165, 6}};
        for (int[] row : due) {
            BatteryCaches x = new BatteryCaches();
            x.set(2, row[0]);
            x.learn();
            x.tick(5);
            pass(x, row[1] - 1);
            Check.due("the charge by " + row[0], x.battery(0), row[0] * (row[1] - 1));
            Check.due("it still rises", x.battery(4), 2);
            Check.due("none has ended", x.count(7), 0);
            x.tick(1);
            Check.due("the capacity", x.battery(0), 990);
            Check.due("it has ended", x.battery(4), 0);
            Check.due("it counts", x.count(7), 1);
            x.tick(1);
            Check.due("it counts once", x.count(7), 1);
        }
        BatteryCaches still = new BatteryCaches();
        still.set(2, 0);
        still.learn();
        for (int i = 0; i < 100; i++) {
            still.tick(99);
        }
        Check.due("with a rise of 0 it never ends", still.battery(4), 2);
        Check.due("and stays at 0", still.battery(0), 0);
        Check.due("with a wear of 1", still.battery(2), 1);
    }

    private static void cycleInOneCall() {
        Check.sentence("When a tick passes: if a learning cycle runs, it goes on.");
        BatteryCaches x = Check.dirty(3);
        x.learn();
        Check.due("tick(56)", x.tick(56), 0);
        Check.due("it has ended", x.battery(4), 0);
        Check.due("the charge", x.battery(0), 990);
        Check.due("the wear", x.battery(2), 1);
        Check.due("the tick", x.count(0), 56);
        Check.due("nothing is dirty", x.lines(1), 7);
    }

    private static void wearAtMost() {
        Check.sentence("Its wear becomes greater by 1, 90 at most.");
        BatteryCaches x = new BatteryCaches();
        x.set(2, 200);
        x.set(3, 500);
        Check.retype(x, "g;t7;g;t7;g;t7;g;t7;g;t7;g;t7;g;t7;g;t7;g;t7;g;t7;");
        for (int tens = 1; tens <= 9; tens++) {
            x.play();
            Check.due("wear", x.battery(2), 10 * tens);
            Check.due("capacity", x.battery(1), 1000 - 100 * tens);
        }
        x.play();
        Check.due("the wear is 90 at most", x.battery(2), 90);
        Check.due("so the capacity is 100 at least", x.battery(1), 100);
        Check.due("the charge is not more", x.battery(0), 100);
        Check.due("cycles", x.count(7), 100);
        Check.due("none may be dirty", x.write(1, 1), 1);
        x.set(1, 0);
        Check.due("one may without the fixed cost", x.write(1, 1), 0);
        Check.due("the next may not", x.write(2, 1), 1);
        x.undo();
        x.set(0, 101);
        Check.due("a line that costs more than the capacity", x.battery(3), 0);
        Check.due("never", x.ticksUntil(1), MISSING);
        Check.due("tick", x.tick(1), 1);
    }

    private static void settingsInCycle() {
        Check.sentence("In each tick the charge falls by setting 3; it rises by setting 2, also if they are changed in it.");
        BatteryCaches x = new BatteryCaches();
        x.learn();
        x.tick(1);
        x.set(3, 1);
        x.tick(1);
        Check.due("it falls by the new one", x.battery(0), 799);
        x.set(3, 500);
        x.tick(2);
        Check.due("0", x.battery(0), 0);
        x.set(2, 200);
        x.tick(4);
        Check.due("it rises by the new one", x.battery(0), 800);
        x.load(800);
        Check.due("a load to 0 does not make it fall", x.battery(4), 2);
        x.tick(1);
        Check.due("nor learn", x.battery(2), 1);
        Check.due("it rises again", x.battery(0), 200);
    }

    private static void cutSaves() {
        Check.sentence("As long as it is at least setting 0 and a line is dirty, it falls by setting 0, and this line is flushed.");
        int[][] due = {{8, 1000, 100, 100, 0, 100}, {8, 900, 100, 100, 0, 0}, {8, 899, 100, 100, 1, 99},
            {8, 200, 100, 100, 7, 0}, {8, 199, 100, 100, 8, 99}, {0, 1000, 100, 100, 0, 900}, {1, 1000, 100, 100, 0, 800},
            {8, 1000, 1, 0, 0, 992}, {8, 8, 1, 0, 0, 0}, {7, 7, 1, 0, 0, 0}, {3, 1000, 500, 0, 1, 0}, {3, 999, 500, 0, 2, 499},
            {8, 1000, 500, 500, 7, 0}, {8, 999, 500, 500, 8, 499}, {5, 1000, 500, 500, 4, 0}};
        for (int[] row : due) {
            String told = row[0] + " lines at " + row[1] + " with " + row[2] + " and " + row[3];
            BatteryCaches x = dirtyAt(row[0], row[1], row[2], row[3]);
            Check.due("would be saved of " + told, x.battery(5), row[0] - row[4]);
            Check.due("would be lost of " + told, Integer.bitCount(x.lines(3)), row[4]);
            Check.due("cut of " + told, x.cut(), row[4]);
            Check.due("charge behind " + told, x.battery(0), row[5]);
            Check.due("flushed of " + told, x.count(3), row[0] - row[4]);
            Check.due("laid of " + told, x.count(8), row[0] - row[4]);
            Check.due("lost of " + told, x.count(5), row[4]);
        }
    }

    private static void cutAtTheFixedCost() {
        Check.sentence("If it is less than setting 1, nothing is saved, and the charge becomes 0.");
        int[][] due = {{99, 100, 0}, {100, 100, 0}, {101, 100, 1}, {0, 0, 0}, {0, 1, 0}, {1, 1, 0}, {1, 0, 1}, {499, 500, 0},
            {500, 500, 0}, {1000, 500, 500}, {1000, 0, 1000}};
        for (int[] row : due) {
            BatteryCaches x = charged(row[0], 100, row[1]);
            Check.due("cut", x.cut(), 0);
            Check.due("charge of " + row[0] + " behind a cut of " + row[1], x.battery(0), row[2]);
        }
        BatteryCaches x = dirtyAt(8, 99, 1, 100);
        Check.due("cut below the fixed cost", x.cut(), 8);
        Check.due("nothing is left", x.battery(0), 0);
        Check.due("nothing was laid", x.count(8), 0);
        BatteryCaches y = dirtyAt(8, 100, 1, 100);
        Check.due("cut at the fixed cost", y.cut(), 8);
        BatteryCaches z = dirtyAt(8, 101, 1, 100);
        Check.due("cut with one more", z.cut(), 7);
    }

    private static void cutSavesLowestTurns() {
        Check.sentence("The battery saves dirty lines, those with the lowest turns first; what is dirty then is lost.");
        for (int saved = 0; saved <= 8; saved++) {
            BatteryCaches x = dirtyAt(8, 500 + 10 * saved, 10, 500);
            int[] order = {6, 1, 7, 0, 5, 2, 4, 3};
            int lost = 255;
            for (int i = 0; i < 8; i++) {
                x.read(order[i]);
                lost -= i < saved ? 1 << order[i] : 0;
            }
            Check.due("lines(3) of " + saved, x.lines(3), lost);
            Check.due("cut of " + saved, x.cut(), 8 - saved);
            for (int i = 0; i < 8; i++) {
                Check.due("place " + order[i] + " of " + saved, x.placeOf(order[i], 1), i < saved ? 10 + order[i] : 0);
            }
        }
        BatteryCaches y = dirtyAt(8, 520, 10, 500);
        y.flush(0);
        y.read(60);
        Check.due("clean ones cost nothing", y.lines(3), 248);
        Check.due("read(61) takes the clean one", y.read(61), 0);
        Check.due("cut", y.cut(), 5);
    }

    private static void cutEmptiesLines() {
        Check.sentence("All lines are empty behind it.");
        BatteryCaches x = Check.dirty(4);
        x.read(40);
        x.flush(0);
        x.cut();
        Check.due("lines(0)", x.lines(0), 255);
        Check.due("lines(1)", x.lines(1), 0);
        Check.due("lines(2)", x.lines(2), 0);
        Check.due("a read of what was in a line is a miss", x.read(0), 10);
        Check.due("misses", x.count(2), 6);
        Check.due("it costs no tick", x.count(0), 0);
        Check.due("cuts", x.count(6), 1);
        x.cut();
        x.cut();
        Check.due("cuts, also with none dirty", x.count(6), 3);
    }

    private static void cutEndsCycle() {
        Check.sentence("A learning cycle is over (but does not count as one that ended).");
        for (int ticks = 1; ticks <= 54; ticks++) {
            BatteryCaches x = new BatteryCaches();
            x.learn();
            x.tick(ticks);
            x.cut();
            Check.due("over behind " + ticks + " ticks", x.battery(4), 0);
            Check.due("not counted", x.count(7), 0);
            Check.due("the wear", x.battery(2), ticks < 5 ? 0 : 1);
            Check.due("the charge", x.battery(0), Math.max(ticks < 5 ? 900 - 200 * ticks : 20 * (ticks - 5) - 100, 0));
            x.tick(99);
            Check.due("it rises as at any time", x.battery(0), ticks < 5 ? 1000 : 990);
            Check.due("none ends", x.count(7), 0);
        }
        BatteryCaches x = new BatteryCaches();
        x.learn();
        x.cut();
        Check.due("the allowance is back", x.battery(3), 8);
        Check.due("a cycle may begin", x.learn(), 0);
    }

    private static void nothingIsLost() {
        Check.sentence("By what is told above nothing is ever lost, unless settings were changed.");
        for (int lines = 0; lines <= 8; lines++) {
            for (int more = 0; more < 2; more++) {
                BatteryCaches x = Check.dirty(lines);
                x.load(Math.max(900 - 100 * lines + more, 1));
                Check.due("no line would be lost", x.lines(3), 0);
                x.write(30, 3);
                x.write(31, 3);
                Check.due("none would be lost", x.lines(3), 0);
                Check.due("cut", x.cut(), 0);
                Check.due("lost", x.count(5), 0);
                for (int line = 0; line < lines; line++) {
                    Check.due("saved", x.placeOf(line, 0), 10 + line);
                }
            }
        }
    }

    private static void settingRanges() {
        Check.sentence("The settings are: 0 (1 to 500; 100), 1 (0 to 500; 100), 2 (0 to 200; 20), 3 (1 to 500; 200).");
        int[][] ranges = {{1, 500, 100}, {0, 500, 100}, {0, 200, 20}, {1, 500, 200}};
        for (int what = 0; what < 4; what++) {
            BatteryCaches x = new BatteryCaches();
            int[] row = ranges[what];
            Check.due("at first", x.count(20 + what), row[2]);
            Check.invalid("set(" + what + ")", x.set(what, row[0] - 1), x.set(what, row[1] + 1), x.set(what, -1),
                    x.set(what, 501), x.set(what, Integer.MIN_VALUE), x.set(what, Integer.MAX_VALUE));
            Check.due("it stays", x.count(20 + what), row[2]);
            Check.due("to the least", x.set(what, row[0]), row[2]);
            Check.due("to the same again", x.set(what, row[0]), row[0]);
            Check.due("to the most", x.set(what, row[1]), row[0]);
            for (int other = 0; other < 4; other++) {
                Check.due("setting " + other, x.count(20 + other), other == what ? row[1] : ranges[other][2]);
            }
            Check.invalid("set of none", x.set(-1, 100), x.set(4, 100), x.set(-1, -1), x.set(4, 501),
                    x.set(Integer.MIN_VALUE, 100), x.set(Integer.MAX_VALUE, 100));
            Check.due("three changes", x.count(9), 3);
        }
    }

    private static void settingFlushesNothing() {
        Check.sentence("By a change of a setting itself nothing is flushed; too many dirty lines are flushed at the next tick, "
                + "load or learning cycle.");
        for (int way = 0; way < 3; way++) {
            BatteryCaches x = Check.dirty(8);
            x.set(0, 500);
            x.set(1, 500);
            Check.due("one is allowed", x.battery(3), 1);
            Check.due("all are still dirty", x.lines(2), 255);
            x.read(3);
            x.write(4, 44);
            Check.due("hits do not flush", x.lines(2), 255);
            Check.due("by hand only one is", x.flush(7), 7);
            Check.due("flushed", x.count(3), 1);
            if (way == 0) {
                Check.due("tick(1)", x.tick(1), 6);
                Check.due("that with the highest turn is left", x.lines(2), 16);
            } else if (way == 1) {
                Check.due("load(1)", x.load(1), 7);
            } else {
                Check.due("learn()", x.learn(), 7);
            }
        }
        BatteryCaches y = Check.dirty(8);
        y.set(0, 500);
        y.set(0, 100);
        Check.due("set back ahead of the tick", y.tick(1), 0);
    }

    private static void wouldBeSaved() {
        Check.sentence("5: how many of the lines that are dirty now would be saved by a cut.");
        BatteryCaches x = new BatteryCaches();
        Check.due("of none", x.battery(5), 0);
        x.read(1);
        Check.due("clean ones do not count", x.battery(5), 0);
        for (int lines = 1; lines <= 8; lines++) {
            Check.due("of " + lines, Check.dirty(lines).battery(5), lines);
        }
        BatteryCaches y = Check.dirty(8);
        y.set(1, 500);
        Check.due("five by the charge", y.battery(5), 5);
        Check.due("three would be lost", y.lines(3), 224);
        Check.due("it is only asked", y.battery(0), 1000);
        y.learn();
        Check.due("in a cycle none is dirty", y.battery(5), 0);
        Check.due("so none would be lost", y.lines(3), 0);
    }

    private static void wouldFlushAsLoad() {
        Check.sentence("Tells how many lines a load would flush.");
        int[] loads = {1, 100, 101, 300, 301, 400, 401, 499, 500, 501, 800, 801, 899, 900, 998, 999};
        int[][] scenes = {{8, 1000, 100, 100}, {8, 1000, 1, 0}, {5, 601, 100, 100}, {8, 1000, 500, 500}, {1, 1000, 1, 1},
            {0, 1000, 100, 100}, {3, 3, 500, 500}, {8, 508, 1, 500}};
        for (int[] row : scenes) {
            for (int load : loads) {
                int would = dirtyAt(row[0], row[1], row[2], row[3]).wouldFlush(load);
                Check.due("wouldFlush(" + load + ")", would, dirtyAt(row[0], row[1], row[2], row[3]).load(load));
            }
        }
        Check.due("of eight by the least", Check.dirty(8).wouldFlush(1), 0);
        Check.due("of eight by the greatest", Check.dirty(8).wouldFlush(999), 8);
        Check.due("of none", new BatteryCaches().wouldFlush(999), 0);
    }

    private static void wouldFlushOutOfRange() {
        Check.sentence("wouldFlush, load: 1 to 999; INVALID_ARGUMENT if load is out of range.");
        BatteryCaches x = Check.dirty(8);
        Check.invalid("wouldFlush", x.wouldFlush(0), x.wouldFlush(1000), x.wouldFlush(-1), x.wouldFlush(Integer.MIN_VALUE),
                x.wouldFlush(Integer.MAX_VALUE));
    }

    private static void criticalEdges() {
        Check.sentence("Returns the load, 1 to 999; NOT_FOUND if none would.");
        int[][] due = {{0, 1000, 100, 100, MISSING}, {0, 0, 1, 0, MISSING}, {1, 1000, 1, 0, MISSING}, {1, 999, 1, 0, 999},
            {1, 1000, 1, 1, 999}, {2, 1000, 1, 0, 999}, {8, 1000, 1, 0, 993}, {8, 900, 100, 100, 1}, {8, 901, 100, 100, 2},
            {8, 899, 100, 100, 1}, {8, 8, 500, 500, 1}, {1, 1, 1, 0, 1}, {2, 1000, 500, 0, 1}, {1, 1000, 500, 500, 1},
            {1, 1000, 500, 499, 2}};
        for (int[] row : due) {
            BatteryCaches x = dirtyAt(row[0], row[1], row[2], row[3]);
            int load = x.critical();
            Check.due("critical of " + row[0] + " at " + row[1] + " with " + row[2] + " and " + row[3], load, row[4]);
            Check.due("by the greatest load", x.wouldFlush(999) > 0 ? 1 : 0, row[4] == MISSING ? 0 : 1);
            if (load > 1) {
                Check.due("by one less", x.wouldFlush(load - 1), 0);
            }
            if (load > 0) {
                Check.due("by itself", x.wouldFlush(load) > 0 ? 1 : 0, 1);
                Check.due("as many as it says", x.wouldFlush(load), x.load(load));
            }
        }
        BatteryCaches cycle = Check.dirty(8);
        cycle.learn();
        Check.due("in a cycle", cycle.critical(), MISSING);
    }

    private static void ticksUntilEdges() {
        Check.sentence("Returns how many ticks, 0 to 400; NOT_FOUND if it is not by then.");
        Check.due("8 of a full one", new BatteryCaches().ticksUntil(8), 0);
        Check.due("0 of an empty one", charged(0, 500, 500).ticksUntil(0), 0);
        int[][] due = {{0, 100, 300, 1, 1, 400}, {0, 100, 301, 1, 1, MISSING}, {1, 100, 301, 1, 1, 400},
            {0, 1, 400, 1, 1, MISSING}, {0, 1, 399, 1, 1, 400}, {0, 50, 0, 1, 8, 400}, {0, 50, 1, 1, 8, MISSING},
            {0, 500, 500, 200, 1, 5}, {0, 500, 500, 200, 2, MISSING}, {999, 100, 100, 0, 8, 0}, {899, 100, 100, 0, 8, MISSING},
            {899, 100, 100, 0, 7, 0}, {899, 100, 100, 1, 8, 1}, {0, 500, 0, 5, 2, 200}, {0, 125, 0, 20, 8, 50},
            {0, 126, 0, 20, 8, MISSING}};
        for (int[] row : due) {
            BatteryCaches x = charged(row[0], row[1], row[2]);
            x.set(2, row[3]);
            int ticks = x.ticksUntil(row[4]);
            Check.due("ticksUntil(" + row[4] + ") at " + row[0] + " with " + row[1] + " and " + row[2], ticks, row[5]);
            pass(x, ticks - 1);
            if (ticks > 0) {
                Check.due("one tick ahead", x.battery(3) < row[4] ? 1 : 0, 1);
                x.tick(1);
                Check.due("behind them", x.battery(3) >= row[4] ? 1 : 0, 1);
            }
        }
    }

    private static void ticksUntilInCycle() {
        Check.sentence("Tells behind how many ticks the allowance is at least so great for the first time.");
        for (int charge = 700; charge <= 701; charge++) {
            BatteryCaches x = charged(charge, 100, 100);
            x.set(2, 3);
            x.set(3, 10);
            x.learn();
            Check.due("0 is allowed in a cycle", x.ticksUntil(0), 0);
            // 70 ticks down from 700, 330 up to 990.
            Check.due("ticks to the end from " + charge, x.ticksUntil(1), charge == 700 ? 400 : MISSING);
            Check.due("all are allowed then", x.ticksUntil(8), charge == 700 ? 400 : MISSING);
            x.tick(1);
            Check.due("a tick later", x.ticksUntil(8), charge == 700 ? 399 : 400);
        }
        BatteryCaches still = new BatteryCaches();
        still.set(2, 0);
        still.learn();
        Check.due("a cycle that never ends", still.ticksUntil(1), MISSING);
        BatteryCaches dear = new BatteryCaches();
        dear.set(0, 500);
        dear.set(1, 500);
        dear.learn();
        Check.due("the capacity is 990 then", dear.ticksUntil(1), MISSING);
        BatteryCaches fall = new BatteryCaches();
        fall.load(999);
        fall.learn();
        Check.due("one tick down, 50 up", fall.ticksUntil(8), 51);
        fall.tick(50);
        Check.due("the last tick", fall.ticksUntil(8), 1);
        Check.due("it is only asked", fall.count(7), 0);
    }

    private static void ticksUntilOutOfRange() {
        Check.sentence("allowance: 0 to 8; INVALID_ARGUMENT if allowance is out of range.");
        BatteryCaches x = new BatteryCaches();
        x.set(2, 0);
        x.load(999);
        Check.invalid("ticksUntil", x.ticksUntil(-1), x.ticksUntil(9), x.ticksUntil(Integer.MIN_VALUE),
                x.ticksUntil(Integer.MAX_VALUE));
    }
}
