import java.util.StringJoiner;

/** What the tests share: they compare answers, count the wrong ones and end with code 1 if there was one. */
final class Check {
    private static int checked = 0;
    private static int wrong = 0;
    private static String sentence = "";

    private Check() {
    }

    /** Names the sentence of the document that the answers below stand for, until the next one. */
    static void sentence(String words) {
        sentence = words;
    }

    static void due(String call, long got, long want) {
        checked++;
        if (got != want) {
            wrong++;
            tellSentence();
            System.out.println(call + " answered " + got + ", due is " + want);
        }
    }

    static void dueText(String what, String got, String want) {
        checked++;
        if (!got.equals(want)) {
            wrong++;
            tellSentence();
            System.out.println(what + " is\n" + got + "\ndue is\n" + want);
        }
    }

    private static void tellSentence() {
        if (!sentence.isEmpty()) {
            System.out.println("the document: " + sentence);
        }
    }

    /** The answers of calls whose arguments are out of range. */
    static void invalid(String call, int... answers) {
        for (int i = 0; i < answers.length; i++) {
            due(call + ", wrong input " + i, answers[i], BatteryCaches.INVALID_ARGUMENT);
        }
    }

    /** So many dirty lines: line k has the place k with the value 10 + k and the turn k + 1. */
    static BatteryCaches dirty(int lines) {
        BatteryCaches cache = new BatteryCaches();
        for (int line = 0; line < lines; line++) {
            cache.write(line, 10 + line);
        }
        return cache;
    }

    /** Brings the charge down to this one, from 1000. */
    static void discharge(BatteryCaches cache, int charge) {
        int away = 1000 - charge;
        if (away > 999) {
            cache.load(999);
            away -= 999;
        }
        if (away > 0) {
            cache.load(away);
        }
    }

    /** All that an undo restores, in some 330 calls: no more than one time for an object of 512. */
    static String seen(BatteryCaches cache) {
        StringJoiner seen = new StringJoiner(" ");
        for (int line = 0; line < 8; line++) {
            for (int what = 0; what < 5; what++) {
                seen.add("" + cache.lineOf(line, what));
            }
        }
        for (int place = 0; place < 64; place++) {
            for (int what = 0; what < 4; what++) {
                seen.add("" + cache.placeOf(place, what));
            }
        }
        for (int what = 0; what < 6; what++) {
            seen.add("" + cache.battery(what));
        }
        for (int what = 0; what < 24; what++) {
            seen.add("" + (what == 9 || what == 10 ? 0 : cache.count(what)));
        }
        return seen.toString();
    }

    static BatteryCaches typed(String text) {
        BatteryCaches cache = new BatteryCaches();
        retype(cache, text);
        return cache;
    }

    static void retype(BatteryCaches cache, String text) {
        cache.clearText();
        for (int i = 0; i < text.length(); i++) {
            cache.type(text.charAt(i));
        }
    }

    static void end(String test) {
        System.out.println(test + ": " + checked + " answers, " + wrong + " wrong");
        if (wrong != 0 || checked == 0) {
            System.exit(1);
        }
    }
}
