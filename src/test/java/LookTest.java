/** Promises 10, 11, 13 and 18: lineOf, placeOf, lines and count. */
final class LookTest {
    public static void main(String[] args) {
        promise10();
        promise11();
        promise13();
        promise18();
        Check.end("LookTest");
    }

    private static BatteryCaches someLines() {
        BatteryCaches x = new BatteryCaches();
        x.read(10);
        x.write(20, 200);
        x.write(63, 999);
        x.read(10);
        x.flush(1);
        return x;
    }

    private static void promise10() {
        BatteryCaches x = someLines();
        int[][] due = {{1, 10, 0, 4, 2}, {1, 20, 200, 2, 0}, {2, 63, 999, 3, 1}};
        for (int line = 0; line < due.length; line++) {
            for (int what = 0; what < 5; what++) {
                Check.due("lineOf(" + line + ", " + what + ")", x.lineOf(line, what), due[line][what]);
            }
        }
        Check.due("lineOf(3, 0)", x.lineOf(3, 0), 0);
        for (int what = 1; what < 5; what++) {
            Check.due("lineOf(3, " + what + ")", x.lineOf(3, what), BatteryCaches.NOT_FOUND);
        }
        Check.invalid("lineOf", x.lineOf(-1, 0), x.lineOf(8, 0), x.lineOf(0, -1), x.lineOf(0, 5), x.lineOf(3, 5));
        x.read(20);
        Check.due("lines ahead of line 1", x.lineOf(1, 4), 2);
        Check.due("lines ahead of line 2", x.lineOf(2, 4), 0);
        x.read(63);
        Check.due("lines ahead of line 2, hit last", x.lineOf(2, 4), 2);
        Check.due("line 0 is ahead of line 1", x.lineOf(1, 4), 1);
        x.cut();
        Check.due("lineOf(0, 0) behind a cut", x.lineOf(0, 0), 0);
        Check.due("lineOf(0, 3) behind a cut", x.lineOf(0, 3), BatteryCaches.NOT_FOUND);
    }

    private static void promise11() {
        BatteryCaches x = someLines();
        x.write(20, 201);
        x.flush(1);
        x.write(20, 202);
        int[] due = {201, 202, 1, 2};
        for (int what = 0; what < 4; what++) {
            Check.due("placeOf(20, " + what + ")", x.placeOf(20, what), due[what]);
        }
        Check.due("placeOf(0, 1)", x.placeOf(0, 1), 0);
        Check.due("placeOf(0, 2)", x.placeOf(0, 2), BatteryCaches.NOT_FOUND);
        Check.due("placeOf(63, 2)", x.placeOf(63, 2), 2);
        Check.invalid("placeOf", x.placeOf(-1, 0), x.placeOf(64, 0), x.placeOf(0, -1), x.placeOf(0, 4));
        Check.due("it reads nothing", x.lineOf(1, 3), 6);
        x.cut();
        Check.due("placeOf(20, 2) behind a cut", x.placeOf(20, 2), BatteryCaches.NOT_FOUND);
        Check.due("placeOf(20, 1) behind a cut", x.placeOf(20, 1), 202);
        Check.due("placeOf(20, 3) behind a cut", x.placeOf(20, 3), 3);
    }

    private static void promise13() {
        BatteryCaches x = someLines();
        int[] due = {248, 3, 4, 0};
        for (int what = 0; what < 4; what++) {
            Check.due("lines(" + what + ")", x.lines(what), due[what]);
        }
        Check.invalid("lines", x.lines(-1), x.lines(4));
        x.set(1, 500);
        x.set(0, 500);
        x.write(20, 1);
        Check.due("none is lost of one", x.lines(3), 0);
        x.undo();
        x.undo();
        x.write(20, 1);
        x.read(63);
        x.set(0, 500);
        Check.due("that with the higher turn is lost of two", x.lines(3), 4);
        Check.due("clean ones are not lost", x.lines(1), 1);
    }

    private static void promise18() {
        BatteryCaches x = someLines();
        x.write(20, 3);
        x.write(30, 4);
        x.load(800);
        x.write(40, 5);
        x.set(0, 500);
        x.set(1, 90);
        x.cut();
        x.tick(7);
        x.learn();
        x.tick(60);
        x.set(2, 21);
        x.set(3, 201);
        x.type('r');
        int[] due = {67, 2, 5, 3, 1, 1, 1, 1, 4, 4, 1};
        for (int what = 0; what < due.length; what++) {
            Check.due("count(" + what + ")", x.count(what), due[what]);
        }
        int[] settings = {500, 90, 21, 201};
        for (int what = 0; what < 4; what++) {
            Check.due("count(" + (20 + what) + ")", x.count(20 + what), settings[what]);
        }
        Check.invalid("count", x.count(-1), x.count(11), x.count(19), x.count(24));
    }
}
