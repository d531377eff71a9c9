/** Promises 5 to 9 and 12: tick, load, learn, cut, set and battery. */
final class BatteryTest {
    public static void main(String[] args) {
        promise5();
        promise6();
        promise7();
        promise7WithLoads();
        promise7WearsOut();
        promise8();
        promise8Loses();
        promise8InCycle();
        promise9();
        promise12();
        Check.end("BatteryTest");
    }

    private static void promise5() {
        BatteryCaches x = new BatteryCaches();
        x.load(500);
        Check.due("tick(1)", x.tick(1), 0);
        Check.due("the charge rises", x.battery(0), 520);
        Check.due("tick(99)", x.tick(99), 0);
        Check.due("to the capacity at most", x.battery(0), 1000);
        Check.due("the tick", x.count(0), 100);
        Check.invalid("tick", x.tick(0), x.tick(-1), x.tick(100));
        for (int place = 0; place < 8; place++) {
            x.write(place, place);
        }
        x.read(0);
        x.set(0, 300);
        Check.due("a change of a setting flushes nothing", x.lines(2), 255);
        Check.due("tick flushes what is too much", x.tick(2), 5);
        Check.due("the lowest turns first", x.lines(2), 193);
        Check.due("flushed", x.count(3), 5);
        x.set(0, 100);
        x.set(2, 0);
        x.set(1, 300);
        x.load(500);
        x.tick(9);
        Check.due("with no rise the charge stays", x.battery(0), 500);
    }

    private static void promise6() {
        BatteryCaches x = new BatteryCaches();
        for (int place = 0; place < 8; place++) {
            x.write(place, place);
        }
        Check.due("load(100): 900 are just enough for eight", x.load(100), 0);
        Check.due("load(1): 899 are not", x.load(1), 1);
        Check.due("the lowest turn goes", x.lines(2), 254);
        Check.due("load(999)", x.load(999), 7);
        Check.due("to 0 at least", x.battery(0), 0);
        Check.due("flushed", x.count(3), 8);
        Check.due("no tick", x.count(0), 0);
        Check.invalid("load", x.load(0), x.load(-1), x.load(1000));
        x.set(0, 1);
        x.set(1, 0);
        x.tick(1);
        x.write(1, 1);
        x.set(0, 500);
        Check.due("too many by a setting are flushed at a load", x.load(1), 1);
    }

    private static void promise7() {
        BatteryCaches x = new BatteryCaches();
        x.write(1, 11);
        x.write(2, 12);
        x.load(550);
        Check.due("learn flushes all", x.learn(), 2);
        Check.due("none is dirty", x.lines(2), 0);
        Check.due("none is allowed", x.battery(3), 0);
        Check.due("it falls", x.battery(4), 1);
        Check.due("learn again", x.learn(), BatteryCaches.NOT_POSSIBLE);
        Check.due("an error is no change", x.count(9), 4);
        x.tick(2);
        Check.due("450 less 400", x.battery(0), 50);
        Check.due("it still falls", x.battery(4), 1);
        Check.due("it has not learnt", x.battery(2), 0);
        x.tick(1);
        Check.due("0 at least", x.battery(0), 0);
        Check.due("it learns in this tick", x.battery(2), 1);
        Check.due("it rises from the next on", x.battery(4), 2);
        Check.due("learn while it rises", x.learn(), BatteryCaches.NOT_POSSIBLE);
        x.tick(49);
        Check.due("980", x.battery(0), 980);
        Check.due("not ended", x.count(7), 0);
        Check.due("write in a cycle", x.write(5, 5), 1);
        x.tick(1);
        Check.due("990, the capacity", x.battery(0), 990);
        Check.due("ended", x.battery(4), 0);
        Check.due("ended, counted", x.count(7), 1);
        Check.due("allowed again", x.battery(3), 8);
        Check.due("learn anew", x.learn(), 0);
    }

    private static void promise7WithLoads() {
        BatteryCaches x = new BatteryCaches();
        x.learn();
        x.load(999);
        x.load(999);
        Check.due("a load to 0 is no tick", x.battery(4), 1);
        Check.due("nor does it learn", x.battery(2), 0);
        x.tick(1);
        Check.due("0 behind the tick", x.battery(4), 2);
        Check.due("it learns", x.battery(2), 1);
        x.tick(10);
        x.load(999);
        Check.due("a load while it rises", x.battery(0), 0);
        x.tick(1);
        Check.due("it rises on", x.battery(0), 20);
        Check.due("and learns no more", x.battery(2), 1);
        x.set(2, 0);
        x.tick(99);
        Check.due("with no rise it goes on", x.battery(4), 2);
    }

    private static void promise7WearsOut() {
        BatteryCaches x = new BatteryCaches();
        x.set(2, 200);
        x.set(3, 500);
        for (int cycle = 1; cycle <= 92; cycle++) {
            x.learn();
            x.tick(10);
            Check.due("wear of cycle " + cycle, x.battery(2), Math.min(cycle, 90));
            Check.due("capacity of cycle " + cycle, x.battery(1), 1000 - 10 * Math.min(cycle, 90));
        }
        Check.due("cycles", x.count(7), 92);
        Check.due("the charge", x.battery(0), 100);
        Check.due("the allowance", x.battery(3), 0);
        x.set(1, 0);
        Check.due("the allowance without a fixed cost", x.battery(3), 1);
    }

    private static void promise8() {
        BatteryCaches x = new BatteryCaches();
        x.write(1, 11);
        x.write(2, 12);
        x.read(3);
        Check.due("cut", x.cut(), 0);
        Check.due("saved", x.placeOf(2, 0), 12);
        Check.due("flushed", x.count(3), 2);
        Check.due("all are empty", x.lines(0), 255);
        Check.due("the charge", x.battery(0), 700);
        Check.due("cuts", x.count(6), 1);
        Check.due("lost", x.count(5), 0);
        x.read(9);
        Check.due("turns go on", x.lineOf(0, 3), 4);
        Check.due("cut with nothing dirty", x.cut(), 0);
        Check.due("costs the fixed cost", x.battery(0), 600);
        x.load(501);
        Check.due("cut below the fixed cost", x.cut(), 0);
        Check.due("takes all", x.battery(0), 0);
    }

    private static void promise8Loses() {
        BatteryCaches x = new BatteryCaches();
        for (int place = 0; place < 4; place++) {
            x.write(place, 10 + place);
        }
        x.read(0);
        x.set(0, 450);
        Check.due("two would be saved", x.battery(5), 2);
        Check.due("two would be lost", x.lines(3), 9);
        Check.due("cut", x.cut(), 2);
        Check.due("the lowest turns are saved", x.placeOf(1, 0), 11);
        Check.due("the next too", x.placeOf(2, 0), 12);
        Check.due("the others are lost", x.placeOf(3, 1), 0);
        Check.due("the hit one too", x.placeOf(0, 1), 0);
        Check.due("the charge", x.battery(0), 0);
        Check.due("lost", x.count(5), 2);
        Check.due("flushed", x.count(3), 2);
        x.set(0, 100);
        x.tick(99);
        x.write(5, 5);
        x.load(600);
        x.set(1, 401);
        Check.due("less than the fixed cost saves none", x.battery(5), 0);
        Check.due("all would be lost", x.lines(3), 1);
        Check.due("cut below the fixed cost", x.cut(), 1);
        Check.due("lost in all", x.count(5), 3);
        Check.due("nothing is left", x.battery(0), 0);
        x.undo();
        Check.due("lost, undone", x.count(5), 2);
    }

    private static void promise8InCycle() {
        BatteryCaches x = new BatteryCaches();
        x.learn();
        x.tick(1);
        Check.due("cut in a cycle", x.cut(), 0);
        Check.due("it is over", x.battery(4), 0);
        Check.due("it did not end", x.count(7), 0);
        Check.due("no wear", x.battery(2), 0);
        Check.due("the charge", x.battery(0), 700);
        x.learn();
        x.tick(4);
        x.cut();
        Check.due("cut while it rises", x.battery(4), 0);
        Check.due("the wear stays", x.battery(2), 1);
        Check.due("it did not end either", x.count(7), 0);
        x.tick(99);
        Check.due("it rises to the new capacity", x.battery(0), 990);
        Check.due("with no cycle that ends", x.count(7), 0);
    }

    private static void promise9() {
        int[] least = {1, 0, 0, 1};
        int[] most = {500, 500, 200, 500};
        int[] first = {100, 100, 20, 200};
        BatteryCaches x = new BatteryCaches();
        for (int what = 0; what < 4; what++) {
            Check.due("set to the least", x.set(what, least[what]), first[what]);
            Check.due("set to the most", x.set(what, most[what]), least[what]);
            Check.due("it is so", x.count(20 + what), most[what]);
            Check.invalid("set", x.set(what, least[what] - 1), x.set(what, most[what] + 1));
            Check.due("it is still so", x.set(what, first[what]), most[what]);
        }
        Check.invalid("set", x.set(-1, 100), x.set(4, 100));
        Check.due("a setting that stays is a change", x.set(0, 100), 100);
        Check.due("settings are undone", x.undo(), 3);
    }

    private static void promise12() {
        BatteryCaches x = new BatteryCaches();
        int[] loads = {100, 1, 99, 600, 100, 1, 99};
        int[] allowed = {8, 7, 7, 1, 0, 0, 0};
        for (int i = 0; i < loads.length; i++) {
            x.load(loads[i]);
            Check.due("allowance " + i, x.battery(3), allowed[i]);
        }
        Check.due("the charge", x.battery(0), 0);
        Check.invalid("battery", x.battery(-1), x.battery(6));
        BatteryCaches y = new BatteryCaches();
        y.set(0, 1);
        Check.due("8 at most", y.battery(3), 8);
        Check.due("saved of none", y.battery(5), 0);
        y.write(1, 1);
        y.write(2, 1);
        Check.due("saved of two", y.battery(5), 2);
        y.set(1, 500);
        y.set(0, 500);
        Check.due("saved of two by a dear cut", y.battery(5), 1);
        Check.due("and allowed", y.battery(3), 1);
    }
}
