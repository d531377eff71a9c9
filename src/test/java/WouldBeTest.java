/** Promises 14 to 17 and 19: wouldFlush, critical, ticksUntil, pair and undo. */
final class WouldBeTest {
    public static void main(String[] args) {
        promise14();
        promise15();
        promise16();
        promise16InCycle();
        promise17();
        promise19();
        promise19Restores();
        promise19RestoresAll();
        Check.end("WouldBeTest");
    }

    private static void promise14() {
        BatteryCaches x = Check.dirty(3);
        int[][] due = {{1, 0}, {600, 0}, {601, 1}, {700, 1}, {701, 2}, {801, 3}, {999, 3}};
        for (int[] pair : due) {
            Check.due("wouldFlush(" + pair[0] + ")", x.wouldFlush(pair[0]), pair[1]);
        }
        Check.due("nothing happens", x.lines(2), 7);
        Check.due("the charge stays", x.battery(0), 1000);
        Check.due("it is no change", x.count(9), 3);
        Check.invalid("wouldFlush", x.wouldFlush(0), x.wouldFlush(-1), x.wouldFlush(1000));
        x.set(0, 450);
        Check.due("those that are too many by a setting count", x.wouldFlush(1), 2);
        x.set(0, 500);
        Check.due("of three one is left", x.wouldFlush(300), 2);
        x.learn();
        Check.due("in a cycle none is dirty", x.wouldFlush(999), 0);
    }

    private static void promise15() {
        Check.due("critical of none", new BatteryCaches().critical(), BatteryCaches.NOT_FOUND);
        Check.due("critical of one", Check.dirty(1).critical(), 801);
        Check.due("critical of eight", Check.dirty(8).critical(), 101);
        BatteryCaches x = Check.dirty(1);
        x.set(0, 1);
        x.set(1, 0);
        Check.due("a load of 1000 is no load", x.critical(), BatteryCaches.NOT_FOUND);
        x.set(1, 1);
        Check.due("the greatest load", x.critical(), 999);
        x.load(998);
        Check.due("the least load", x.critical(), 1);
        x.set(1, 500);
        Check.due("too many by a setting", x.critical(), 1);
        Check.due("by any load", x.wouldFlush(1), 1);
        Check.due("it flushes nothing", x.lines(2), 1);
        x.read(9);
        x.tick(1);
        Check.due("clean ones do not count", x.critical(), BatteryCaches.NOT_FOUND);
    }

    private static void promise16() {
        BatteryCaches x = new BatteryCaches();
        Check.due("at once", x.ticksUntil(8), 0);
        x.load(999);
        int[] due = {0, 10, 15, 20, 25, 30, 35, 40, 45};
        for (int allowance = 0; allowance <= 8; allowance++) {
            Check.due("ticksUntil(" + allowance + ")", x.ticksUntil(allowance), due[allowance]);
        }
        Check.due("no tick passes", x.count(0), 0);
        Check.due("the charge stays", x.battery(0), 1);
        Check.invalid("ticksUntil", x.ticksUntil(-1), x.ticksUntil(9));
        x.set(2, 0);
        Check.due("never", x.ticksUntil(1), BatteryCaches.NOT_FOUND);
        Check.due("of course", x.ticksUntil(0), 0);
        x.set(2, 1);
        x.set(1, 301);
        Check.due("behind 400 ticks", x.ticksUntil(1), 400);
        x.set(1, 302);
        Check.due("behind 401 ticks", x.ticksUntil(1), BatteryCaches.NOT_FOUND);
        x.set(1, 500);
        x.set(0, 500);
        x.set(2, 200);
        Check.due("more than the capacity", x.ticksUntil(2), BatteryCaches.NOT_FOUND);
    }

    private static void promise16InCycle() {
        BatteryCaches x = new BatteryCaches();
        x.learn();
        Check.due("0 is allowed in a cycle", x.ticksUntil(0), 0);
        Check.due("5 ticks down, 50 up to 990", x.ticksUntil(1), 55);
        Check.due("and all at once", x.ticksUntil(8), 55);
        x.tick(30);
        Check.due("on the way up", x.ticksUntil(8), 25);
        Check.due("the battery stays", x.battery(0), 500);
        Check.due("its wear too", x.battery(2), 1);
    }

    private static void promise17() {
        BatteryCaches x = new BatteryCaches();
        Check.due("pair of none", x.pair(0), BatteryCaches.NOT_FOUND);
        x.write(30, 1);
        Check.due("pair of one", x.pair(1), BatteryCaches.NOT_FOUND);
        x.read(31);
        Check.due("clean ones do not count", x.pair(0), BatteryCaches.NOT_FOUND);
        x.write(40, 1);
        Check.due("pair of two", x.pair(0), 0);
        Check.due("its distance", x.pair(1), 10);
        x.read(30);
        Check.due("the lower turn", x.pair(0), 2);
        x.write(60, 1);
        x.write(57, 1);
        Check.due("the nearest", x.pair(0), 3);
        Check.due("its distance", x.pair(1), 3);
        x.write(33, 1);
        x.read(60);
        Check.due("of four the lowest turn", x.pair(0), 0);
        x.read(30);
        Check.due("of four the next", x.pair(0), 4);
        Check.invalid("pair", x.pair(-1), x.pair(2));
        BatteryCaches y = new BatteryCaches();
        Check.invalid("pair ahead of NOT_FOUND", y.pair(2));
        y.write(0, 1);
        y.write(63, 1);
        Check.due("the farthest", y.pair(1), 63);
    }

    private static void promise19() {
        BatteryCaches x = new BatteryCaches();
        Check.due("undo of nothing", x.undo(), BatteryCaches.NOT_POSSIBLE);
        x.read(1);
        x.write(2, 2);
        x.tick(3);
        x.load(4);
        Check.due("four states", x.count(9), 4);
        x.learn();
        Check.due("four at most", x.count(9), 4);
        x.cut();
        x.type('x');
        x.clearText();
        x.read(64);
        x.critical();
        x.ticksUntil(3);
        Check.due("before the cut", x.undo(), 3);
        Check.due("the cycle runs", x.battery(4), 1);
        Check.due("before the cycle", x.undo(), 2);
        Check.due("none runs", x.battery(4), 0);
        Check.due("the charge", x.battery(0), 996);
        Check.due("before the load", x.undo(), 1);
        Check.due("the charge", x.battery(0), 1000);
        Check.due("before the tick", x.undo(), 0);
        Check.due("the tick", x.count(0), 0);
        Check.due("the write", x.lines(2), 2);
        Check.due("older states are gone", x.undo(), BatteryCaches.NOT_POSSIBLE);
        x.flush(1);
        x.set(0, 5);
        x.play();
        Check.due("flush, set and play are changes", x.count(9), 3);
    }

    private static void promise19Restores() {
        BatteryCaches x = new BatteryCaches();
        x.write(5, 50);
        x.write(6, 60);
        x.type('r');
        x.set(1, 0);
        x.cut();
        x.undo();
        x.type('5');
        int[] dueCounts = {0, 0, 2, 0, 0, 0, 0, 0, 0, 3, 2};
        for (int what = 0; what < dueCounts.length; what++) {
            Check.due("count(" + what + ") behind undo", x.count(what), dueCounts[what]);
        }
        Check.due("lines behind undo", x.lines(2), 3);
        Check.due("disk behind undo", x.placeOf(5, 0), 0);
        Check.due("laid behind undo", x.placeOf(5, 3), 0);
        Check.due("value behind undo", x.placeOf(5, 1), 50);
        Check.due("setting behind undo", x.count(21), 0);
        x.undo();
        Check.due("setting behind the next undo", x.count(21), 100);
        x.read(5);
        Check.due("turns go back too", x.lineOf(0, 3), 3);
        Check.due("a new change is recorded", x.count(9), 3);
        x.undo();
        Check.due("and undone", x.lineOf(0, 3), 1);
        x.read(5);
        Check.due("its turn is given again", x.lineOf(0, 3), 3);
    }

    private static BatteryCaches behind(int changes) {
        BatteryCaches x = Check.dirty(8);
        for (int change = 0; change < changes; change++) {
            makeChange(x, change);
        }
        return x;
    }

    private static void promise19RestoresAll() {
        for (int change = 0; change < 18; change++) {
            String before = Check.seen(behind(change));
            String after = Check.seen(behind(change + 1));
            Check.due("change " + change + " changes something", before.equals(after) ? 0 : 1, 1);
            BatteryCaches x = behind(change + 1);
            x.undo();
            Check.dueText("what is seen behind change " + change + " and undo", Check.seen(x), before);
            BatteryCaches y = behind(change + 1);
            y.read(0);
            y.tick(1);
            y.undo();
            y.undo();
            Check.dueText("what is seen behind change " + change + " and two undos", Check.seen(y), after);
        }
    }

    private static void makeChange(BatteryCaches x, int change) {
        switch (change) {
            case 0 -> x.read(7);
            case 1 -> x.read(40);
            case 2 -> x.write(7, 70);
            case 3 -> x.write(50, 51);
            case 4 -> x.flush(3);
            case 5 -> x.load(650);
            case 6 -> x.write(51, 52);
            case 7 -> x.set(0, 300);
            case 8 -> x.set(1, 99);
            case 9 -> x.set(2, 19);
            case 10 -> x.set(3, 199);
            case 11 -> x.tick(3);
            case 12 -> x.cut();
            case 13 -> x.learn();
            case 14 -> x.tick(3);
            case 15 -> x.tick(70);
            case 16 -> {
                Check.retype(x, "w1=1;w2=2;r3;g;t2;");
                x.play();
            }
            default -> x.cut();
        }
    }
}
