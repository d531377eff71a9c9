/** Boundary cases of disk and cache (promises 1 to 4, 10, 11, 13, 17): a test for each sentence that names one. */
final class EdgesOfLinesTest {
    private static final int MISSING = BatteryCaches.NOT_FOUND;
    private static final int IMPOSSIBLE = BatteryCaches.NOT_POSSIBLE;

    public static void main(String[] args) {
        firstAndLastPlace();
        firstAndLastValue();
        allLinesEmptyAtFirst();
        noPlaceInTwoLines();
        nextTurn();
        lowestEmptyLine();
        cleanLineWithLowestTurn();
        allLinesDirty();
        writeTakesLineAsRead();
        writeToDirtyLine();
        fewerDirtyThanAllowed();
        writeOfMissAtTheLimit();
        writeGoesThrough();
        readOutOfRange();
        writeOutOfRange();
        flushByHand();
        flushOutOfRange();
        flushOfLineNotDirty();
        lineOfEmptyLine();
        lineOfOutOfRange();
        linesWithLowerTurns();
        placeOfEdges();
        placeOfOutOfRange();
        setsOfLines();
        linesOutOfRange();
        pairOfFewerThanTwo();
        pairDistances();
        pairOfSeveral();
        pairOutOfRange();
        Check.end("EdgesOfLinesTest");
    }

    private static void firstAndLastPlace() {
        Check.sentence("The disk has 64 places, numbered from 0.");
        for (int place = 0; place < 64; place++) {
            BatteryCaches x = new BatteryCaches();
            Check.due("new placeOf(" + place + ", 0)", x.placeOf(place, 0), 0);
            Check.due("write(" + place + ", 999)", x.write(place, 999), 0);
            Check.due("flush(0)", x.flush(0), 0);
            for (int other = 0; other < 64; other++) {
                Check.due("placeOf(" + other + ", 0)", x.placeOf(other, 0), other == place ? 999 : 0);
                Check.due("read(" + other + ")", x.read(other), other == place ? 999 : 0);
            }
        }
    }

    private static void firstAndLastValue() {
        Check.sentence("Each with a value (0 to 999; 0 at first).");
        BatteryCaches x = new BatteryCaches();
        Check.due("write(63, 999)", x.write(63, 999), 0);
        x.flush(0);
        Check.due("the greatest value", x.placeOf(63, 0), 999);
        Check.due("write(63, 0)", x.write(63, 0), 0);
        Check.due("0 is a value as any", x.placeOf(63, 1), 0);
        Check.due("it is not yet on the disk", x.placeOf(63, 0), 999);
        x.flush(0);
        Check.due("the least value", x.placeOf(63, 0), 0);
    }

    private static void allLinesEmptyAtFirst() {
        Check.sentence("The cache has 8 lines, numbered from 0, all empty at first.");
        BatteryCaches x = new BatteryCaches();
        int[] sets = {255, 0, 0, 0};
        for (int what = 0; what < 4; what++) {
            Check.due("new lines(" + what + ")", x.lines(what), sets[what]);
        }
        for (int line = 0; line < 8; line++) {
            Check.due("new lineOf(" + line + ", 0)", x.lineOf(line, 0), 0);
            Check.due("new lineOf(" + line + ", 4)", x.lineOf(line, 4), MISSING);
            Check.due("new flush(" + line + ")", x.flush(line), IMPOSSIBLE);
            Check.due("a miss", x.read(50 + line), 0);
            Check.due("takes the line", x.placeOf(50 + line, 2), line);
        }
        Check.due("there is no ninth", x.lines(0), 0);
    }

    private static void noPlaceInTwoLines() {
        Check.sentence("No place is in two lines.");
        BatteryCaches x = new BatteryCaches();
        for (int i = 0; i < 50; i++) {
            int place = i * 7 % 11;
            if (i % 3 == 0) {
                x.read(place);
            } else {
                x.write(place, i);
            }
            int held = 0;
            for (int line = 0; line < 8; line++) {
                held += x.lineOf(line, 1) == place ? 1 : 0;
            }
            Check.due("lines that hold " + place + " in step " + i, held, 1);
        }
    }

    private static void nextTurn() {
        Check.sentence("Whenever it is laid or hit, it gets the next turn (1, 2, 3 and so on).");
        BatteryCaches x = new BatteryCaches();
        x.read(5);
        Check.due("the first turn", x.lineOf(0, 3), 1);
        x.write(6, 1);
        Check.due("a write that misses", x.lineOf(1, 3), 2);
        x.read(5);
        Check.due("a read that hits", x.lineOf(0, 3), 3);
        x.write(5, 5);
        Check.due("a write that hits", x.lineOf(0, 3), 4);
        x.load(900);
        x.write(7, 7);
        Check.due("a write that misses and goes through", x.lineOf(2, 3), 5);
        x.write(5, 6);
        Check.due("a write that hits and goes through", x.lineOf(0, 3), 6);
        x.tick(5);
        x.write(6, 2);
        Check.due("a hit gets one turn", x.lineOf(1, 3), 7);
        x.flush(1);
        x.set(0, 50);
        x.load(1);
        x.learn();
        x.read(64);
        x.lineOf(1, 3);
        x.placeOf(6, 1);
        Check.due("none of these gives a turn", x.lineOf(1, 3), 7);
        x.read(7);
        Check.due("nor uses one up", x.lineOf(2, 3), 8);
        x.cut();
        x.read(7);
        Check.due("nor does a cut", x.lineOf(0, 3), 9);
        for (int turn = 10; turn <= 130; turn++) {
            x.read(7);
            Check.due("turn " + turn, x.lineOf(0, 3), turn);
        }
    }

    private static void lowestEmptyLine() {
        Check.sentence("The place is laid into a line: the lowest empty line.");
        BatteryCaches x = new BatteryCaches();
        for (int line = 0; line < 8; line++) {
            x.read(20 + line);
            Check.due("placeOf(" + (20 + line) + ", 2)", x.placeOf(20 + line, 2), line);
        }
        Check.due("the clean ones stay while one is empty", x.lines(1), 255);
        x.cut();
        x.read(60);
        Check.due("behind a cut it is line 0 again", x.placeOf(60, 2), 0);
        x.write(61, 1);
        Check.due("then line 1, though line 0 is clean", x.placeOf(61, 2), 1);
        x.read(62);
        Check.due("then line 2", x.placeOf(62, 2), 2);
        Check.due("five are empty", x.lines(0), 248);
    }

    private static void cleanLineWithLowestTurn() {
        Check.sentence("Or, if there is none, the clean line with the lowest turn.");
        BatteryCaches x = Check.dirty(8);
        x.read(6);
        x.flush(6);
        x.read(40);
        Check.due("the one clean line, though its turn is the highest", x.placeOf(40, 2), 6);
        Check.due("no other was flushed", x.count(3), 1);
        x.flush(7);
        x.flush(1);
        x.read(41);
        Check.due("of three that with the lowest turn", x.placeOf(41, 2), 1);
        x.read(42);
        Check.due("then the next", x.placeOf(42, 2), 7);
        x.read(40);
        x.read(43);
        Check.due("a hit sets back how soon it goes", x.placeOf(43, 2), 1);
        x.read(44);
        Check.due("then the next by turns", x.placeOf(44, 2), 7);
        Check.due("those that were dirty stay", x.lines(2), 61);
    }

    private static void allLinesDirty() {
        Check.sentence("Or, if all are dirty, the line with the lowest turn, which is flushed first.");
        BatteryCaches x = Check.dirty(8);
        x.read(0);
        x.write(1, 77);
        Check.due("all are dirty", x.lines(2), 255);
        Check.due("read(50)", x.read(50), 0);
        Check.due("takes the line with the lowest turn", x.placeOf(50, 2), 2);
        Check.due("what went is on the disk", x.placeOf(2, 0), 12);
        Check.due("in no line", x.placeOf(2, 2), MISSING);
        Check.due("one was flushed", x.count(3), 1);
        Check.due("it was laid once", x.placeOf(2, 3), 1);
        Check.due("the new one is clean", x.lines(1), 4);
        Check.due("and is not laid", x.placeOf(50, 3), 0);
        Check.due("read(51)", x.read(51), 0);
        Check.due("takes the clean one, not one more dirty", x.placeOf(51, 2), 2);
        Check.due("read(2) reads what was flushed", x.read(2), 12);
    }

    private static void writeTakesLineAsRead() {
        Check.sentence("Otherwise it is a miss, and a line is taken as for a read.");
        BatteryCaches x = Check.dirty(7);
        x.write(30, 3);
        Check.due("the one empty line", x.placeOf(30, 2), 7);
        x.flush(5);
        x.flush(3);
        x.read(3);
        x.write(31, 4);
        Check.due("the clean line with the lowest turn", x.placeOf(31, 2), 5);
        x.write(32, 5);
        Check.due("the last clean line", x.placeOf(32, 2), 3);
        Check.due("nothing was flushed for it", x.count(3), 2);
        x.write(0, 9);
        x.write(33, 6);
        Check.due("of eight dirty ones that with the lowest turn", x.placeOf(33, 2), 1);
        Check.due("which was flushed", x.placeOf(1, 0), 11);
        Check.due("misses", x.count(2), 11);
        Check.due("hits", x.count(1), 2);
    }

    private static void writeToDirtyLine() {
        Check.sentence("Then, if the line is dirty already, the line has the new value, and is dirty.");
        BatteryCaches x = Check.dirty(8);
        x.set(1, 500);
        x.set(0, 500);
        Check.due("only one is allowed", x.battery(3), 1);
        Check.due("write(7, 999)", x.write(7, 999), 0);
        Check.due("all stay dirty", x.lines(2), 255);
        Check.due("the new value", x.lineOf(7, 2), 999);
        Check.due("nothing is laid", x.count(8), 0);
        BatteryCaches y = Check.dirty(1);
        y.load(700);
        y.set(1, 500);
        Check.due("none is allowed", y.battery(3), 0);
        Check.due("write(0, 1)", y.write(0, 1), 0);
        Check.due("it stays dirty", y.lines(2), 1);
        Check.due("one that is not dirty goes through", y.write(1, 1), 1);
    }

    private static void fewerDirtyThanAllowed() {
        Check.sentence("Or fewer lines are dirty than allowed, the line has the new value, and is dirty.");
        for (int allowed = 0; allowed < 8; allowed++) {
            BatteryCaches x = new BatteryCaches();
            Check.discharge(x, 100 + 100 * allowed);
            for (int place = 0; place < allowed; place++) {
                Check.due("write " + place + " of " + allowed + " allowed", x.write(place, 5), 0);
            }
            Check.due("as many are dirty as allowed", x.write(20, 5), 1);
            Check.due("it is clean", x.lineOf(allowed, 0), 1);
            x.read(21);
            Check.due("a clean line that is hit", x.write(20, 6), 1);
        }
        for (int number = 1; number < 8; number++) {
            BatteryCaches x = new BatteryCaches();
            Check.discharge(x, 100 + 100 * number - 1);
            for (int place = 0; place < number - 1; place++) {
                x.write(place, 5);
            }
            Check.due("one of charge is missing for " + number, x.write(20, 5), 1);
        }
    }

    private static void writeOfMissAtTheLimit() {
        Check.sentence("A line is taken as for a read; then it is looked at how many are dirty.");
        BatteryCaches x = Check.dirty(8);
        Check.due("eight are dirty and allowed", x.write(20, 5), 0);
        Check.due("one went, so it may be dirty", x.lines(2), 255);
        Check.due("one was flushed", x.count(3), 1);
        x.set(0, 128);
        Check.due("seven are allowed", x.battery(3), 7);
        Check.due("write(21, 6)", x.write(21, 6), 1);
        Check.due("seven are dirty behind the flush: it goes through", x.lines(1), 2);
        Check.due("the next takes the clean line, and goes through too", x.write(22, 7), 1);
        Check.due("no more was flushed", x.count(3), 2);
        Check.due("values laid", x.count(8), 4);
    }

    private static void writeGoesThrough() {
        Check.sentence("Otherwise the write goes through: the value is laid on the disk, too, and the line is clean.");
        BatteryCaches x = new BatteryCaches();
        x.load(900);
        Check.due("write(9, 0), the value that is there", x.write(9, 0), 1);
        Check.due("is laid all the same", x.placeOf(9, 3), 1);
        Check.due("write(9, 999), a hit", x.write(9, 999), 1);
        Check.due("is laid again", x.placeOf(9, 3), 2);
        Check.due("on the disk", x.placeOf(9, 0), 999);
        Check.due("in the line, too", x.lineOf(0, 2), 999);
        Check.due("clean", x.lineOf(0, 0), 1);
        Check.due("went through", x.count(4), 2);
        Check.due("laid", x.count(8), 2);
        Check.due("not flushed", x.count(3), 0);
        Check.due("one miss", x.count(2), 1);
        Check.due("one hit", x.count(1), 1);
    }

    private static void readOutOfRange() {
        Check.sentence("place: 0 to 63; INVALID_ARGUMENT if place is out of range.");
        BatteryCaches x = new BatteryCaches();
        Check.due("read(0)", x.read(0), 0);
        Check.due("read(63)", x.read(63), 0);
        Check.invalid("read", x.read(-1), x.read(64), x.read(Integer.MIN_VALUE), x.read(Integer.MAX_VALUE));
        Check.due("only two were read", x.count(2), 2);
        Check.due("only two lines are taken", x.lines(0), 252);
    }

    private static void writeOutOfRange() {
        Check.sentence("place: 0 to 63; value: 0 to 999; INVALID_ARGUMENT if an argument is out of range.");
        BatteryCaches x = new BatteryCaches();
        Check.due("write(0, 0)", x.write(0, 0), 0);
        Check.due("write(0, 999)", x.write(0, 999), 0);
        Check.due("write(63, 0)", x.write(63, 0), 0);
        Check.due("write(63, 999)", x.write(63, 999), 0);
        Check.invalid("write", x.write(-1, 0), x.write(64, 0), x.write(0, -1), x.write(0, 1000), x.write(-1, -1),
                x.write(64, 1000), x.write(Integer.MIN_VALUE, 0), x.write(0, Integer.MIN_VALUE),
                x.write(Integer.MAX_VALUE, 0), x.write(0, Integer.MAX_VALUE));
        Check.due("the value stays", x.placeOf(0, 1), 999);
        Check.due("hits and misses", x.count(1) + x.count(2), 4);
    }

    private static void flushByHand() {
        Check.sentence("Returns how many lines are dirty then.");
        BatteryCaches x = Check.dirty(8);
        int[] order = {7, 0, 3, 4, 1, 6, 5, 2};
        for (int i = 0; i < 8; i++) {
            Check.due("flush(" + order[i] + ")", x.flush(order[i]), 7 - i);
            Check.due("on the disk", x.placeOf(order[i], 0), 10 + order[i]);
        }
        Check.due("all are clean", x.lines(1), 255);
        BatteryCaches y = new BatteryCaches();
        y.write(5, 0);
        Check.due("flush of the value that is there", y.flush(0), 0);
        Check.due("is laid all the same", y.placeOf(5, 3), 1);
        Check.due("and flushed", y.count(3), 1);
    }

    private static void flushOutOfRange() {
        Check.sentence("line: 0 to 7; INVALID_ARGUMENT if line is out of range.");
        BatteryCaches x = Check.dirty(8);
        Check.invalid("flush", x.flush(-1), x.flush(8), x.flush(Integer.MIN_VALUE), x.flush(Integer.MAX_VALUE));
        Check.due("none was flushed", x.lines(2), 255);
        Check.invalid("flush of a new one", new BatteryCaches().flush(8));
    }

    private static void flushOfLineNotDirty() {
        Check.sentence("NOT_POSSIBLE if it is not dirty.");
        BatteryCaches x = new BatteryCaches();
        Check.due("an empty line", x.flush(0), IMPOSSIBLE);
        x.read(1);
        Check.due("a line that was read", x.flush(0), IMPOSSIBLE);
        x.write(1, 1);
        Check.due("a dirty line", x.flush(0), 0);
        Check.due("a line that was flushed", x.flush(0), IMPOSSIBLE);
        x.load(900);
        x.write(2, 1);
        Check.due("a line that was written through", x.flush(1), IMPOSSIBLE);
        x.tick(99);
        x.write(2, 2);
        x.cut();
        Check.due("a line that was saved by a cut", x.flush(1), IMPOSSIBLE);
        Check.due("flushed, by hand and by the cut", x.count(3), 2);
    }

    private static void lineOfEmptyLine() {
        Check.sentence("NOT_FOUND for 1 to 4 if it is empty.");
        BatteryCaches x = Check.dirty(7);
        for (int what = 1; what <= 4; what++) {
            Check.due("lineOf(7, " + what + ")", x.lineOf(7, what), MISSING);
        }
        Check.due("lineOf(7, 0)", x.lineOf(7, 0), 0);
        x.read(0);
        x.cut();
        for (int line = 0; line < 8; line++) {
            Check.due("kind behind a cut", x.lineOf(line, 0), 0);
            for (int what = 1; what <= 4; what++) {
                Check.due("lineOf(" + line + ", " + what + ") behind a cut", x.lineOf(line, what), MISSING);
            }
        }
    }

    private static void lineOfOutOfRange() {
        Check.sentence("line: 0 to 7; what: 0 to 4; INVALID_ARGUMENT if an argument is out of range.");
        for (BatteryCaches x : new BatteryCaches[] {new BatteryCaches(), Check.dirty(8)}) {
            Check.invalid("lineOf", x.lineOf(-1, 0), x.lineOf(8, 0), x.lineOf(0, -1), x.lineOf(0, 5), x.lineOf(7, 5),
                    x.lineOf(8, 5), x.lineOf(Integer.MIN_VALUE, 0), x.lineOf(0, Integer.MAX_VALUE));
        }
        BatteryCaches y = Check.dirty(8);
        int[] due = {2, 7, 17, 8, 7};
        for (int what = 0; what < 5; what++) {
            Check.due("lineOf(7, " + what + ")", y.lineOf(7, what), due[what]);
        }
        Check.due("place 0 is a place", y.lineOf(0, 1), 0);
    }

    private static void linesWithLowerTurns() {
        Check.sentence("4: how many lines that are not empty have lower turns.");
        BatteryCaches x = Check.dirty(8);
        x.flush(3);
        for (int line = 0; line < 8; line++) {
            Check.due("lineOf(" + line + ", 4)", x.lineOf(line, 4), line);
        }
        x.read(0);
        for (int line = 0; line < 8; line++) {
            Check.due("lineOf(" + line + ", 4) behind a hit", x.lineOf(line, 4), line == 0 ? 7 : line - 1);
        }
        x.cut();
        x.read(9);
        Check.due("empty lines do not count", x.lineOf(0, 4), 0);
        x.read(8);
        Check.due("clean ones do", x.lineOf(1, 4), 1);
    }

    private static void placeOfEdges() {
        Check.sentence("Of a place: 1: its value as it would be read; NOT_FOUND for 2 if none holds it.");
        BatteryCaches x = new BatteryCaches();
        int[] none = {0, 0, MISSING, 0};
        for (int what = 0; what < 4; what++) {
            Check.due("new placeOf(63, " + what + ")", x.placeOf(63, what), none[what]);
        }
        x.write(63, 999);
        int[] held = {0, 999, 0, 0};
        for (int what = 0; what < 4; what++) {
            Check.due("placeOf(63, " + what + "), dirty", x.placeOf(63, what), held[what]);
        }
        x.flush(0);
        int[] clean = {999, 999, 0, 1};
        for (int what = 0; what < 4; what++) {
            Check.due("placeOf(63, " + what + "), clean", x.placeOf(63, what), clean[what]);
        }
        x.write(63, 998);
        x.cut();
        int[] saved = {998, 998, MISSING, 2};
        for (int what = 0; what < 4; what++) {
            Check.due("placeOf(63, " + what + "), saved", x.placeOf(63, what), saved[what]);
        }
        for (int place = 0; place < 8; place++) {
            x.read(place);
        }
        Check.due("placeOf(7, 2), the last line", x.placeOf(7, 2), 7);
    }

    private static void placeOfOutOfRange() {
        Check.sentence("place: 0 to 63; what: 0 to 3; INVALID_ARGUMENT if an argument is out of range.");
        BatteryCaches x = new BatteryCaches();
        Check.invalid("placeOf", x.placeOf(-1, 0), x.placeOf(64, 0), x.placeOf(64, 2), x.placeOf(0, -1), x.placeOf(0, 4),
                x.placeOf(63, 4), x.placeOf(64, 4), x.placeOf(Integer.MIN_VALUE, 2), x.placeOf(0, Integer.MIN_VALUE),
                x.placeOf(Integer.MAX_VALUE, 2), x.placeOf(0, Integer.MAX_VALUE));
    }

    private static void setsOfLines() {
        Check.sentence("Sets of lines are told as bits: bit k is for the line k.");
        for (int line = 0; line < 8; line++) {
            BatteryCaches x = Check.dirty(8);
            x.flush(line);
            Check.due("the clean line " + line, x.lines(1), 1 << line);
            Check.due("the other ones", x.lines(2), 255 - (1 << line));
            Check.due("none is empty", x.lines(0), 0);
            Check.due("none would be lost", x.lines(3), 0);
            BatteryCaches y = Check.dirty(line);
            Check.due("empty behind " + line, y.lines(0), 256 - (1 << line));
            Check.due("dirty ones", y.lines(2), (1 << line) - 1);
        }
        BatteryCaches x = Check.dirty(8);
        x.load(100);
        x.set(1, 500);
        x.set(0, 500);
        Check.due("all would be lost", x.lines(3), 255);
        for (int line = 0; line < 8; line++) {
            x.flush(line);
        }
        Check.due("all are clean", x.lines(1), 255);
        Check.due("clean ones are not lost", x.lines(3), 0);
    }

    private static void linesOutOfRange() {
        Check.sentence("what: 0 to 3; INVALID_ARGUMENT if what is out of range.");
        BatteryCaches x = Check.dirty(8);
        Check.invalid("lines", x.lines(-1), x.lines(4), x.lines(Integer.MIN_VALUE), x.lines(Integer.MAX_VALUE));
    }

    private static void pairOfFewerThanTwo() {
        Check.sentence("NOT_FOUND if fewer than two lines are dirty.");
        BatteryCaches x = new BatteryCaches();
        Check.due("none, the line", x.pair(0), MISSING);
        Check.due("none, the distance", x.pair(1), MISSING);
        x.write(0, 1);
        Check.due("one, the line", x.pair(0), MISSING);
        Check.due("one, the distance", x.pair(1), MISSING);
        x.read(1);
        Check.due("one beside a clean one", x.pair(0), MISSING);
        x.write(2, 1);
        Check.due("two, the line", x.pair(0), 0);
        Check.due("two, the distance", x.pair(1), 2);
        x.flush(0);
        Check.due("one is left", x.pair(0), MISSING);
        x.cut();
        Check.due("none behind a cut", x.pair(1), MISSING);
    }

    private static void pairDistances() {
        Check.sentence("The dirty one whose place is nearest to that of another dirty one.");
        for (int distance = 1; distance < 64; distance++) {
            BatteryCaches x = new BatteryCaches();
            x.write(63, 1);
            x.write(63 - distance, 1);
            Check.due("the distance " + distance, x.pair(1), distance);
            Check.due("the line", x.pair(0), 0);
        }
        BatteryCaches y = new BatteryCaches();
        y.write(0, 1);
        y.write(63, 1);
        y.write(31, 1);
        Check.due("behind 63 there is not 0 again", y.pair(1), 31);
        Check.due("so it is 0 and 31", y.pair(0), 0);
        y.write(40, 1);
        Check.due("31 and 40 are nearer", y.pair(0), 2);
        y.read(41);
        y.flush(2);
        Check.due("clean ones do not count", y.pair(1), 23);
        Check.due("63 and 40", y.pair(0), 1);
    }

    private static void pairOfSeveral() {
        Check.sentence("Of several the one with the lower turn.");
        BatteryCaches x = new BatteryCaches();
        x.write(12, 1);
        x.write(10, 1);
        x.write(11, 1);
        x.write(50, 1);
        x.write(51, 1);
        int[] hits = {12, 10, 11, 50, 51, 12};
        int[] best = {0, 1, 2, 3, 4, 0, 1};
        for (int i = 0; i < hits.length; i++) {
            Check.due("of five all one apart, step " + i, x.pair(0), best[i]);
            Check.due("the distance", x.pair(1), 1);
            x.read(hits[i]);
        }
        Check.due("of five all one apart, at last", x.pair(0), best[hits.length]);
        x.flush(1);
        Check.due("without that one", x.pair(0), 2);
    }

    private static void pairOutOfRange() {
        Check.sentence("what: 0 to 1; INVALID_ARGUMENT if what is out of range.");
        for (BatteryCaches x : new BatteryCaches[] {new BatteryCaches(), Check.dirty(2)}) {
            Check.invalid("pair", x.pair(-1), x.pair(2), x.pair(Integer.MIN_VALUE), x.pair(Integer.MAX_VALUE));
        }
    }
}
