/** Promises 1 to 4: a new object, read, write and flush. */
final class ReadsWritesTest {
    public static void main(String[] args) {
        promise1();
        promise2();
        promise2TakesLines();
        promise3();
        promise3GoesThrough();
        promise3OnSettings();
        promise4();
        Check.end("ReadsWritesTest");
    }

    private static void promise1() {
        BatteryCaches x = new BatteryCaches();
        for (int place = 0; place < 64; place++) {
            Check.due("new placeOf(" + place + ", 0)", x.placeOf(place, 0), 0);
            Check.due("new placeOf(" + place + ", 1)", x.placeOf(place, 1), 0);
            Check.due("new placeOf(" + place + ", 2)", x.placeOf(place, 2), BatteryCaches.NOT_FOUND);
            Check.due("new placeOf(" + place + ", 3)", x.placeOf(place, 3), 0);
        }
        Check.due("new lines(0)", x.lines(0), 255);
        int[] battery = {1000, 1000, 0, 8, 0, 0};
        for (int what = 0; what < battery.length; what++) {
            Check.due("new battery(" + what + ")", x.battery(what), battery[what]);
        }
        for (int what = 0; what <= 10; what++) {
            Check.due("new count(" + what + ")", x.count(what), 0);
        }
        int[] settings = {100, 100, 20, 200};
        for (int what = 0; what < settings.length; what++) {
            Check.due("new count(" + (20 + what) + ")", x.count(20 + what), settings[what]);
        }
    }

    private static void promise2() {
        BatteryCaches x = new BatteryCaches();
        Check.due("read(0), a miss", x.read(0), 0);
        Check.due("read(63), a miss", x.read(63), 0);
        Check.due("the lowest empty line is taken", x.placeOf(0, 2), 0);
        Check.due("the next one too", x.placeOf(63, 2), 1);
        Check.due("what is read is clean", x.lines(1), 3);
        Check.due("misses", x.count(2), 2);
        Check.due("read(0), a hit", x.read(0), 0);
        Check.due("hits", x.count(1), 1);
        Check.due("a hit has the next turn", x.lineOf(0, 3), 3);
        Check.due("the other one keeps its turn", x.lineOf(1, 3), 2);
        x.write(63, 999);
        Check.due("read of a dirty line", x.read(63), 999);
        Check.due("read leaves it dirty", x.lineOf(1, 0), 2);
        Check.invalid("read", x.read(-1), x.read(64), x.read(Integer.MIN_VALUE), x.read(Integer.MAX_VALUE));
        Check.due("wrong reads are neither hits", x.count(1), 3);
        Check.due("nor misses", x.count(2), 2);
    }

    private static void promise2TakesLines() {
        BatteryCaches x = new BatteryCaches();
        for (int place = 0; place < 8; place++) {
            x.write(place, 10 + place);
        }
        x.flush(5);
        x.flush(2);
        x.read(2);
        Check.due("read with clean lines", x.read(40), 0);
        Check.due("takes the clean one with the lowest turn, not the lowest", x.lineOf(5, 1), 40);
        Check.due("and flushes nothing", x.count(3), 2);
        Check.due("read again", x.read(41), 0);
        Check.due("takes the other one", x.lineOf(2, 1), 41);
        x.write(40, 1);
        x.write(41, 1);
        x.read(0);
        Check.due("all are dirty", x.lines(2), 255);
        Check.due("read of what has gone", x.read(5), 15);
        Check.due("takes the lowest turn of all", x.lineOf(1, 1), 5);
        Check.due("which was flushed first", x.placeOf(1, 0), 11);
        Check.due("and counts as flushed", x.count(3), 3);
        Check.due("and as laid", x.count(8), 3);
        Check.due("the line is clean then", x.lines(1), 2);
    }

    private static void promise3() {
        BatteryCaches x = new BatteryCaches();
        Check.due("write(0, 0)", x.write(0, 0), 0);
        Check.due("it is dirty though the value is the same", x.lines(2), 1);
        Check.due("write(63, 999)", x.write(63, 999), 0);
        Check.due("the disk has not changed", x.placeOf(63, 0), 0);
        Check.due("it would be read", x.placeOf(63, 1), 999);
        Check.due("two misses", x.count(2), 2);
        Check.due("one turn each", x.lineOf(1, 3), 2);
        Check.due("write of a hit", x.write(0, 5), 0);
        Check.due("a hit", x.count(1), 1);
        Check.due("its turn", x.lineOf(0, 3), 3);
        Check.due("its value", x.lineOf(0, 2), 5);
        Check.invalid("write", x.write(-1, 0), x.write(64, 0), x.write(0, -1), x.write(0, 1000), x.write(64, 1000));
        Check.due("wrong writes change nothing", x.count(9), 3);
        for (int place = 10; place < 16; place++) {
            x.write(place, place);
        }
        Check.due("the ninth dirty place", x.write(20, 7), 0);
        Check.due("lays that with the lowest turn", x.placeOf(63, 0), 999);
        Check.due("and takes its line", x.lineOf(1, 1), 20);
        Check.due("all are dirty", x.lines(2), 255);
        Check.due("none went through", x.count(4), 0);
    }

    private static void promise3GoesThrough() {
        BatteryCaches x = new BatteryCaches();
        x.write(1, 1);
        x.load(800);
        Check.due("one is allowed", x.battery(3), 1);
        Check.due("a write beyond goes through", x.write(2, 22), 1);
        Check.due("it is on the disk", x.placeOf(2, 0), 22);
        Check.due("and in its clean line", x.lineOf(1, 0), 1);
        Check.due("with its value", x.lineOf(1, 2), 22);
        Check.due("it is laid once", x.placeOf(2, 3), 1);
        Check.due("not flushed", x.count(3), 0);
        Check.due("laid in all", x.count(8), 1);
        Check.due("went through", x.count(4), 1);
        Check.due("a hit on a clean line goes through too", x.write(2, 23), 1);
        Check.due("its new value", x.lineOf(1, 2), 23);
        Check.due("its new value on the disk", x.placeOf(2, 0), 23);
        Check.due("a dirty line stays dirty", x.write(1, 5), 0);
        Check.due("the disk has not changed", x.placeOf(1, 0), 0);
        x.learn();
        Check.due("in a learning cycle all go through", x.write(1, 6), 1);
    }

    private static void promise3OnSettings() {
        BatteryCaches x = new BatteryCaches();
        for (int place = 0; place < 8; place++) {
            x.write(place, 1);
        }
        x.set(0, 500);
        Check.due("more are dirty than allowed, a dirty line", x.write(7, 2), 0);
        Check.due("stays dirty", x.lines(2), 255);
        Check.due("a miss flushes one and goes through", x.write(9, 2), 1);
        Check.due("only that one is flushed", x.count(3), 1);
        Check.due("seven are dirty", x.lines(2), 254);
    }

    private static void promise4() {
        BatteryCaches x = new BatteryCaches();
        x.write(3, 7);
        x.write(4, 8);
        Check.due("flush(0)", x.flush(0), 1);
        Check.due("the disk", x.placeOf(3, 0), 7);
        Check.due("clean", x.lineOf(0, 0), 1);
        Check.due("its turn stays", x.lineOf(0, 3), 1);
        Check.due("flushed", x.count(3), 1);
        Check.due("flush(0) of a clean one", x.flush(0), BatteryCaches.NOT_POSSIBLE);
        Check.due("flush(7) of an empty one", x.flush(7), BatteryCaches.NOT_POSSIBLE);
        Check.invalid("flush", x.flush(-1), x.flush(8));
        Check.due("errors are no changes", x.count(9), 3);
        Check.due("flush(1)", x.flush(1), 0);
        x.write(3, 9);
        Check.due("a clean line is dirty again", x.flush(0), 0);
        Check.due("laid twice", x.placeOf(3, 3), 2);
    }
}
