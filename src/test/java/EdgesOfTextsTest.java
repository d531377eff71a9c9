/** Boundary cases of texts (promises 20 to 23): a test for each sentence that names one. */
final class EdgesOfTextsTest {
    private static final int MISSING = BatteryCaches.NOT_FOUND;
    private static final int IMPOSSIBLE = BatteryCaches.NOT_POSSIBLE;
    private static final String THIRTY_CUTS = "c;".repeat(30);

    public static void main(String[] args) {
        sixtyCharacters();
        characterOutOfRange();
        clearTextLengths();
        textWithoutFault();
        ordersOfOneForm();
        digitsOfNumbers();
        rangesOfNumbers();
        endsTooEarly();
        breaksOff();
        formAheadOfRange();
        notPossibleOtherwise();
        doneAheadOfIt();
        firstOrderNotPossible();
        faultOutOfRange();
        playOfNone();
        playCounts();
        playWithFault();
        playDoesAsCalls();
        textStays();
        Check.end("EdgesOfTextsTest");
    }

    private static void fault(String text, int position, int reason, int cause) {
        BatteryCaches x = Check.typed(text);
        Check.due("'" + text + "' fault(0)", x.fault(0), position);
        Check.due("'" + text + "' fault(1)", x.fault(1), reason);
        Check.due("'" + text + "' fault(2)", x.fault(2), cause);
        Check.due("'" + text + "' play()", x.play(), IMPOSSIBLE);
        Check.due("'" + text + "' is no change", x.count(9), 0);
    }

    private static void noFault(String text, int orders) {
        BatteryCaches x = Check.typed(text);
        for (int what = 0; what < 3; what++) {
            Check.due("'" + text + "' fault(" + what + ")", x.fault(what), MISSING);
        }
        Check.due("'" + text + "' play()", x.play(), orders);
        Check.due("'" + text + "' is a change", x.count(9), 1);
    }

    private static void sixtyCharacters() {
        Check.sentence("There is a text of at most 60 characters, initially empty; LIMIT_REACHED if it has 60 characters.");
        BatteryCaches x = new BatteryCaches();
        Check.due("the length at first", x.count(10), 0);
        for (int length = 1; length <= 60; length++) {
            Check.due("type to " + length, x.type(length % 2 == 1 ? 'c' : ';'), length);
            Check.due("count(10)", x.count(10), length);
        }
        Check.due("type of one more", x.type(';'), BatteryCaches.LIMIT_REACHED);
        Check.due("and again", x.type(32), BatteryCaches.LIMIT_REACHED);
        Check.due("the length", x.count(10), 60);
        Check.due("what was typed stands", x.play(), 30);
        Check.due("cuts", x.count(6), 30);
        x.undo();
        Check.due("still full", x.type('c'), BatteryCaches.LIMIT_REACHED);
        x.clearText();
        Check.due("no more behind clearText", x.type('c'), 1);
    }

    private static void characterOutOfRange() {
        Check.sentence("character: 32 to 126; INVALID_ARGUMENT if character is out of range.");
        for (int length = 0; length <= 60; length += 60) {
            BatteryCaches x = Check.typed(THIRTY_CUTS.substring(0, length));
            Check.invalid("type behind " + length, x.type(31), x.type(127), x.type(-1), x.type(0), x.type(10),
                    x.type(256 + 'c'), x.type(65536 + 'c'), x.type(Integer.MIN_VALUE), x.type(Integer.MAX_VALUE));
            Check.due("the length", x.count(10), length);
        }
        for (int character = 32; character <= 126; character++) {
            BatteryCaches x = new BatteryCaches();
            Check.due("type(" + character + ")", x.type(character), 1);
            boolean letter = "rwtlcg".indexOf(character) >= 0;
            Check.due("where it breaks off", x.fault(2), letter ? 1 : 0);
        }
    }

    private static void clearTextLengths() {
        Check.sentence("Returns the length it had.");
        for (int length = 0; length <= 60; length++) {
            BatteryCaches x = Check.typed(THIRTY_CUTS.substring(0, length));
            Check.due("clearText of " + length, x.clearText(), length);
            Check.due("clearText again", x.clearText(), 0);
            Check.due("no fault", x.fault(1), MISSING);
            Check.due("play of nothing", x.play(), 0);
        }
        BatteryCaches y = Check.typed("c;c;");
        Check.retype(y, "c");
        Check.due("nothing of the old text is left behind the new one", y.fault(2), 1);
        Check.due("so it is not whole", y.play(), IMPOSSIBLE);
        Check.due("type of what is missing", y.type(';'), 2);
        Check.due("then it is", y.play(), 1);
    }

    private static void textWithoutFault() {
        Check.sentence("NOT_FOUND if the text has no fault (also if it is empty), for 2 if the reason is 3.");
        noFault("", 0);
        noFault("c;", 1);
        noFault(THIRTY_CUTS, 30);
        fault("g;g;", 2, 3, MISSING);
    }

    private static void ordersOfOneForm() {
        Check.sentence("Orders, each followed by \";\": \"r\" a place, \"w\" a place, \"=\", a value, \"t\" a number, "
                + "\"l\" a number, \"c\", or \"g\".");
        for (String order : new String[] {"r5;", "w5=6;", "t5;", "l5;", "c;", "g;"}) {
            noFault(order, 1);
            noFault("c;" + order + "c;", 3);
            for (int length = 1; length < order.length(); length++) {
                fault(order.substring(0, length), 0, 1, length);
                fault("c;" + order.substring(0, length), 2, 1, length);
            }
            fault(order.toUpperCase(), 0, 1, 0);
            fault(" " + order, 0, 1, 0);
            fault(order + " ", order.length(), 1, 0);
            fault(order + ";", order.length(), 1, 0);
            fault(order.replace(";", ","), 0, 1, order.length() - 1);
            fault(order.replace(";", " ;"), 0, 1, order.length() - 1);
        }
    }

    private static void digitsOfNumbers() {
        Check.sentence("Numbers of 1 to 3 digits, 0 ahead allowed.");
        for (String letter : new String[] {"r", "t", "l", "w"}) {
            String end = letter.equals("w") ? "=1;" : ";";
            fault(letter + end, 0, 1, 1);
            noFault(letter + "7" + end, 1);
            noFault(letter + "07" + end, 1);
            noFault(letter + "007" + end, 1);
            fault(letter + "0007" + end, 0, 1, 4);
            fault(letter + "1234" + end, 0, 1, 4);
            fault(letter + "-1" + end, 0, 1, 1);
            fault(letter + "+1" + end, 0, 1, 1);
            fault(letter + "1 " + end, 0, 1, 2);
            fault(letter + " 1" + end, 0, 1, 1);
            fault(letter + "/" + end, 0, 1, 1);
            fault(letter + ":" + end, 0, 1, 1);
        }
        for (String value : new String[] {"0", "9", "00", "09", "99", "000", "009", "999"}) {
            noFault("w1=" + value + ";", 1);
        }
        fault("w1=;", 0, 1, 3);
        fault("w1=0000;", 0, 1, 6);
        fault("w1=1000;", 0, 1, 6);
        fault("w123=4567;", 0, 1, 8);
        fault("w1=-1;", 0, 1, 3);
    }

    private static void rangesOfNumbers() {
        Check.sentence("2 if a number is out of its range; with the reason 2 the cause is the number.");
        String[] starts = {"r", "w", "t", "l"};
        String[] ends = {";", "=5;", ";", ";"};
        int[] least = {0, 0, 1, 1};
        int[] most = {63, 63, 99, 999};
        for (int i = 0; i < starts.length; i++) {
            for (int number = 0; number <= 999; number++) {
                BatteryCaches x = Check.typed(starts[i] + number + ends[i]);
                boolean inside = number >= least[i] && number <= most[i];
                Check.due(starts[i] + number + ", reason", x.fault(1), inside ? MISSING : 2);
                Check.due(starts[i] + number + ", cause", x.fault(2), inside ? MISSING : number);
            }
        }
        fault("r064;", 0, 2, 64);
        fault("t000;", 0, 2, 0);
        fault("l00;", 0, 2, 0);
        noFault("w63=999;", 1);
        noFault("w0=0;", 1);
    }

    private static void endsTooEarly() {
        Check.sentence("Of one that the text ends too early it is its length.");
        String[] rests = {"r", "r1", "r123", "w", "w12", "w123", "w12=", "w12=3", "w12=345", "t", "t99", "l", "l999", "c", "g"};
        for (String rest : rests) {
            fault(rest, 0, 1, rest.length());
            fault("t1;l2;" + rest, 6, 1, rest.length());
            int ahead = 60 - rest.length();
            String full = (ahead % 2 == 0 ? "" : "t1;") + "c;".repeat((ahead - (ahead % 2 == 0 ? 0 : 3)) / 2) + rest;
            Check.due("60 characters", full.length(), 60);
            fault(full, ahead, 1, rest.length());
        }
    }

    private static void breaksOff() {
        Check.sentence("With the reason 1 at which character of the order, from 0, it breaks off.");
        fault(";", 0, 1, 0);
        fault("=", 0, 1, 0);
        fault("7;", 0, 1, 0);
        fault("c;c;x;", 4, 1, 0);
        fault("cg;", 0, 1, 1);
        fault("c7;", 0, 1, 1);
        fault("g7;", 0, 1, 1);
        fault("rr;", 0, 1, 1);
        fault("r7=7;", 0, 1, 2);
        fault("t7=7;", 0, 1, 2);
        fault("w7;", 0, 1, 2);
        fault("w=7;", 0, 1, 1);
        fault("w7==7;", 0, 1, 3);
        fault("w7=7=7;", 0, 1, 4);
        fault("w7=7w;", 0, 1, 4);
        fault("t1;l7l7;", 3, 1, 2);
    }

    private static void formAheadOfRange() {
        Check.sentence("Its reason is 1 if it is not of this form, its \";\" included, 2 if a number is out of its range.");
        fault("r64", 0, 1, 3);
        fault("r64:", 0, 1, 3);
        fault("t0", 0, 1, 2);
        fault("l000", 0, 1, 4);
        fault("w64", 0, 1, 3);
        fault("w64;", 0, 1, 3);
        fault("w64=", 0, 1, 4);
        fault("w64=5", 0, 1, 5);
        fault("w64=1000;", 0, 1, 7);
        fault("w64=5;", 0, 2, 64);
    }

    private static void notPossibleOtherwise() {
        Check.sentence("And 3 if it is not possible otherwise.");
        for (int ticks = 0; ticks <= 56; ticks++) {
            BatteryCaches x = new BatteryCaches();
            x.learn();
            if (ticks > 0) {
                x.tick(ticks);
            }
            Check.retype(x, "r1;g;");
            Check.due("reason behind " + ticks + " ticks", x.fault(1), ticks < 55 ? 3 : MISSING);
            Check.due("position", x.fault(0), ticks < 55 ? 3 : MISSING);
            Check.due("cause", x.fault(2), MISSING);
            Check.due("play", x.play(), ticks < 55 ? IMPOSSIBLE : 2);
        }
    }

    private static void doneAheadOfIt() {
        Check.sentence("When those ahead of it are done.");
        noFault("g;", 1);
        fault("g;g;", 2, 3, MISSING);
        fault("g;t54;g;", 6, 3, MISSING);
        noFault("g;t55;g;", 3);
        fault("g;t55;g;g;", 8, 3, MISSING);
        noFault("g;c;g;", 3);
        fault("g;c;g;r1;g;", 9, 3, MISSING);
        noFault("l999;g;t51;g;", 4);
        fault("l999;g;t50;g;", 11, 3, MISSING);
        fault("g;t54;l11;t1;g;", 13, 3, MISSING);
        noFault("g;t54;l11;t2;g;", 5);
        noFault("g;t54;l10;t1;g;", 5);
    }

    private static void firstOrderNotPossible() {
        Check.sentence("The fault of the text is the position, from 0, of the first character of the first order that is not "
                + "possible.");
        fault("x;r64;g;g;", 0, 1, 0);
        fault("r64;x;g;g;", 0, 2, 64);
        fault("g;g;x;r64;", 2, 3, MISSING);
        fault("r63;t0;r64;x", 4, 2, 0);
        fault("r63;r64;t0;", 4, 2, 64);
        fault("r1;w2=3;l4;c;t5;g;g", 18, 1, 1);
        fault("r1;w2=3;l4;c;t5;g;g;", 18, 3, MISSING);
        fault("c;".repeat(29) + "r", 58, 1, 1);
        fault("c;".repeat(29) + "r1", 58, 1, 2);
        fault("c;".repeat(28) + "t00;", 56, 2, 0);
        fault("g;" + "t1;".repeat(18) + "l1;g", 59, 1, 1);
        fault("g;" + "t1;".repeat(17) + "t01;g;", 57, 3, MISSING);
    }

    private static void faultOutOfRange() {
        Check.sentence("fault, what: 0 to 2; INVALID_ARGUMENT if what is out of range.");
        for (String text : new String[] {"", "c;", "x", "r64;", "g;g;"}) {
            BatteryCaches x = Check.typed(text);
            Check.invalid("fault of '" + text + "'", x.fault(-1), x.fault(3), x.fault(Integer.MIN_VALUE),
                    x.fault(Integer.MAX_VALUE));
        }
    }

    private static void playOfNone() {
        Check.sentence("They are one change, also if there are none.");
        BatteryCaches x = new BatteryCaches();
        for (int times = 1; times <= 6; times++) {
            Check.due("play", x.play(), 0);
            Check.due("states", x.count(9), Math.min(times, 4));
        }
        Check.due("undo", x.undo(), 3);
    }

    private static void playCounts() {
        Check.sentence("Returns how many there are in it.");
        for (int orders = 0; orders <= 30; orders++) {
            BatteryCaches x = Check.typed("c;".repeat(orders));
            Check.due("play of " + orders, x.play(), orders);
            Check.due("one change", x.count(9), 1);
            Check.due("all are done", x.count(6), orders);
            Check.due("undo", x.undo(), 0);
            Check.due("all are undone", x.count(6), 0);
        }
    }

    private static void playWithFault() {
        Check.sentence("NOT_POSSIBLE if it has a fault.");
        for (String fault : new String[] {"x", "c", "r64;", "t0;", "g;g;"}) {
            BatteryCaches x = Check.typed("w1=5;t9;l99;c;" + fault);
            Check.due("play", x.play(), IMPOSSIBLE);
            Check.due("no write", x.placeOf(1, 3), 0);
            Check.due("no tick", x.count(0), 0);
            Check.due("no load", x.battery(0), 1000);
            Check.due("no cut", x.count(6), 0);
            Check.due("no cycle", x.battery(4), 0);
            Check.due("no change", x.undo(), IMPOSSIBLE);
        }
    }

    private static void playDoesAsCalls() {
        Check.sentence("Does all orders of the text.");
        BatteryCaches x = Check.typed("w63=999;w0=0;r63;t99;l999;w5=1;t1;g;t60;r0;w7=9;c;w7=8;");
        BatteryCaches y = new BatteryCaches();
        y.write(63, 999);
        y.write(0, 0);
        y.read(63);
        y.tick(99);
        y.load(999);
        y.write(5, 1);
        y.tick(1);
        y.learn();
        y.tick(60);
        y.read(0);
        y.write(7, 9);
        y.cut();
        y.write(7, 8);
        Check.due("play", x.play(), 13);
        Check.dueText("what is seen behind it", Check.seen(x), Check.seen(y));
    }

    private static void textStays() {
        Check.sentence("Does all orders of the text, which stays.");
        BatteryCaches x = Check.typed("w1=5;t1;");
        for (int times = 1; times <= 5; times++) {
            Check.due("play", x.play(), 2);
            Check.due("the length", x.count(10), 8);
            Check.due("the tick", x.count(0), times);
        }
        x.undo();
        Check.due("undo leaves the text, too", x.count(10), 8);
        Check.due("type goes on", x.type('c'), 9);
        Check.due("the fault of what is not whole", x.fault(0), 8);
        Check.due("and again", x.type(';'), 10);
        Check.due("play", x.play(), 3);
    }
}
