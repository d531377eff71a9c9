/** Promises 20 to 23: type, clearText, fault and play. */
final class TextTest {
    public static void main(String[] args) {
        promise20();
        promise21();
        promise22Form();
        promise22Range();
        promise22State();
        promise22Places();
        promise23();
        promise23Faults();
        promise23IsOneChange();
        Check.end("TextTest");
    }

    private static void promise20() {
        BatteryCaches x = new BatteryCaches();
        Check.due("type(32)", x.type(32), 1);
        Check.due("type(126)", x.type(126), 2);
        Check.invalid("type", x.type(31), x.type(127), x.type(-1), x.type(0));
        for (int length = 3; length <= 60; length++) {
            Check.due("type to " + length, x.type('r'), length);
        }
        Check.due("type beyond", x.type('r'), BatteryCaches.LIMIT_REACHED);
        Check.due("a wrong character beyond", x.type(31), BatteryCaches.INVALID_ARGUMENT);
        Check.due("the length", x.count(10), 60);
        Check.due("it is no change", x.count(9), 0);
    }

    private static void promise21() {
        BatteryCaches x = Check.typed("r1;r2");
        Check.due("clearText", x.clearText(), 5);
        Check.due("clearText again", x.clearText(), 0);
        Check.due("the length", x.count(10), 0);
        Check.due("no fault", x.fault(0), BatteryCaches.NOT_FOUND);
        Check.due("type anew", x.type('c'), 1);
        Check.due("nothing is left of it", x.fault(2), 1);
        Check.retype(x, "c;");
        Check.retype(x, "c");
        Check.due("nor behind the end", x.fault(2), 1);
        x.clearText();
        Check.due("nor of its fault", x.fault(0), BatteryCaches.NOT_FOUND);
        Check.due("it is no change", x.count(9), 0);
    }

    private static void fault(String text, int position, int reason, int cause) {
        fault(Check.typed(text), text, position, reason, cause);
    }

    private static void fault(BatteryCaches x, String text, int position, int reason, int cause) {
        Check.due("'" + text + "' fault(0)", x.fault(0), position);
        Check.due("'" + text + "' fault(1)", x.fault(1), reason);
        Check.due("'" + text + "' fault(2)", x.fault(2), cause);
        Check.invalid("fault", x.fault(-1), x.fault(3));
        Check.due("'" + text + "' play()", x.play(), BatteryCaches.NOT_POSSIBLE);
        Check.due("'" + text + "' is no change", x.count(9), 0);
    }

    private static void noFault(String text) {
        BatteryCaches x = Check.typed(text);
        for (int what = 0; what < 3; what++) {
            Check.due("'" + text + "' fault(" + what + ")", x.fault(what), BatteryCaches.NOT_FOUND);
        }
    }

    private static void promise22Form() {
        String[] texts = {"x;", " r1;", "R1;", ";", "1;", "r", "r;", "r1", "r-1;", "r1 ;", "r0001;", "r999", "r1r2;",
            "w", "w1", "w1;", "w1=", "w1=;", "w1=2", "w=1;", "w1==2;", "w1=2=3;", "w0001=1;", "w1=1000;", "w1=1 ;",
            "t", "t;", "t1", "t1=2;", "t1000;", "l", "l5", "l5,", "lx;", "c", "c1;", "cc;", "g", "g 1;", "g=;"};
        int[] causes = {0, 0, 0, 0, 0, 1, 1, 2, 1, 2, 4, 4, 2,
            1, 2, 2, 3, 3, 4, 1, 3, 4, 4, 6, 4,
            1, 1, 2, 2, 4, 1, 2, 2, 1, 1, 1, 1, 1, 1, 1};
        Check.due("as many causes", causes.length, texts.length);
        for (int i = 0; i < texts.length; i++) {
            fault(texts[i], 0, 1, causes[i]);
        }
        fault("r64", 0, 1, 3);
        fault("w64=5", 0, 1, 5);
        fault("w64=1000;", 0, 1, 7);
    }

    private static void promise22Range() {
        fault("r64;", 0, 2, 64);
        fault("r999;", 0, 2, 999);
        fault("r064;", 0, 2, 64);
        fault("w64=999;", 0, 2, 64);
        fault("w100=0;", 0, 2, 100);
        fault("t0;", 0, 2, 0);
        fault("t000;", 0, 2, 0);
        fault("t100;", 0, 2, 100);
        fault("l0;", 0, 2, 0);
        for (String text : new String[] {"", "r0;", "r63;", "r063;", "w0=0;", "w63=999;", "w001=001;", "t1;", "t99;",
            "t099;", "l1;", "l999;", "l001;", "c;", "g;", "c;c;c;"}) {
            noFault(text);
        }
    }

    private static void promise22State() {
        fault("g;g;", 2, 3, BatteryCaches.NOT_FOUND);
        fault("g;t5;g;", 5, 3, BatteryCaches.NOT_FOUND);
        fault("g;t54;g;", 6, 3, BatteryCaches.NOT_FOUND);
        noFault("g;t55;g;");
        noFault("g;c;g;");
        noFault("g;l999;l1;t1;t50;g;");
        fault("g;l999;t1;t49;g;", 14, 3, BatteryCaches.NOT_FOUND);
        BatteryCaches x = Check.typed("t1;g;");
        x.learn();
        Check.due("a cycle runs already", x.fault(1), 3);
        Check.due("at the second order", x.fault(0), 3);
        x.undo();
        Check.due("it does not", x.fault(1), BatteryCaches.NOT_FOUND);
    }

    private static void promise22Places() {
        fault("r1;w2=3;r64;t0;", 8, 2, 64);
        fault("r1;w2=3;t0;r64;", 8, 2, 0);
        fault("r1;w2=3;x", 8, 1, 0);
        fault("r1;w2=3;w4=", 8, 1, 3);
        fault("g;g;x", 2, 3, BatteryCaches.NOT_FOUND);
        fault("g;x;g;", 2, 1, 0);
        fault("r1;;", 3, 1, 0);
        fault("r1; r2;", 3, 1, 0);
        String full = "c;c;c;c;c;c;c;c;c;c;c;c;c;c;c;c;c;c;c;c;c;c;c;c;c;c;c;c;c;";
        noFault(full + "c;");
        fault(full + "cc", 58, 1, 1);
        fault(full.substring(0, 56) + "w1=1", 56, 1, 4);
        BatteryCaches x = Check.typed("w1=1;w2=2;g;g;");
        x.fault(0);
        Check.due("fault changes nothing", x.lines(0), 255);
        Check.due("nor the battery", x.battery(4), 0);
        Check.due("nor the history", x.count(9), 0);
    }

    private static void promise23() {
        BatteryCaches x = Check.typed("w3=7;w63=999;r3;t5;l400;c;w9=0;g;");
        Check.due("play", x.play(), 8);
        Check.due("saved by the cut", x.placeOf(3, 0), 7);
        Check.due("saved by the cut too", x.placeOf(63, 0), 999);
        Check.due("the charge", x.battery(0), 300);
        Check.due("ticks", x.count(0), 5);
        Check.due("hits", x.count(1), 1);
        Check.due("misses", x.count(2), 3);
        Check.due("flushed", x.count(3), 3);
        Check.due("cuts", x.count(6), 1);
        Check.due("a cycle runs", x.battery(4), 1);
        Check.due("the text stays", x.count(10), 33);
        Check.due("no fault, as the cut ends the cycle", x.fault(0), BatteryCaches.NOT_FOUND);
        Check.due("play again", x.play(), 8);
        Check.due("the charge of a cycle with a load and a cut", x.battery(0), 0);
    }

    private static void promise23Faults() {
        BatteryCaches x = Check.typed("w3=7;g;");
        Check.due("play", x.play(), 2);
        Check.due("play again", x.play(), BatteryCaches.NOT_POSSIBLE);
        Check.due("nothing of it is done", x.count(1), 0);
        Check.due("nor recorded", x.count(9), 1);
        x.cut();
        Check.due("play behind a cut", x.play(), 2);
    }

    private static void promise23IsOneChange() {
        BatteryCaches x = new BatteryCaches();
        Check.due("play of nothing", x.play(), 0);
        Check.due("is a change", x.count(9), 1);
        Check.retype(x, "w1=1;w2=2;w3=3;t1;t1;t1;c;");
        Check.due("play of seven", x.play(), 7);
        Check.due("is one change", x.count(9), 2);
        Check.due("undo", x.undo(), 1);
        Check.due("undoes all", x.placeOf(2, 1), 0);
        Check.due("all ticks", x.count(0), 0);
        Check.due("the text stays", x.count(10), 26);
        Check.due("play it again", x.play(), 7);
        Check.due("it does the same", x.placeOf(2, 1), 2);
    }
}
