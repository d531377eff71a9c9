/** What the tests share: they compare answers, count the wrong ones and end with code 1 if there was one. */
final class Check {
    private static int checked = 0;
    private static int wrong = 0;

    private Check() {
    }

    static void due(String call, long got, long want) {
        checked++;
        if (got != want) {
            wrong++;
            System.out.println(call + " answered " + got + ", due is " + want);
        }
    }

    static void dueText(String what, String got, String want) {
        checked++;
        if (!got.equals(want)) {
            wrong++;
            System.out.println(what + " is\n" + got + "\ndue is\n" + want);
        }
    }

    /** The answers of calls whose arguments are out of range. */
    static void invalid(String call, int... answers) {
        for (int i = 0; i < answers.length; i++) {
            due(call + ", wrong input " + i, answers[i], BatteryCaches.INVALID_ARGUMENT);
        }
    }

    static BatteryCaches typed(String text) {
        BatteryCaches cache = new BatteryCaches();
        retype(cache, text);
        return cache;
    }

    static void retype(BatteryCaches cache, String text) {
        cache.clearText();
        for (int i = 0; i < text.length(); i++) {
            cache.type(text.charAt(i));
        }
    }

    static void end(String test) {
        System.out.println(test + ": " + checked + " answers, " + wrong + " wrong");
        if (wrong != 0 || checked == 0) {
            System.exit(1);
        }
    }
}
