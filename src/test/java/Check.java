/** Compares answers with those that are due, and ends a test with exit code 1 if one was wrong. */
final class Check {
    static final int UNKNOWN = -1;
    static final int BAD_VALUE = -2;
    static final int FULL = -3;
    static final int NOT_POSSIBLE = -4;
    static final int NONE = -5;

    private static int wrong = 0;
    private static int checked = 0;

    private Check() {
    }

    static void due(String what, long got, long want) {
        checked++;
        if (got != want) {
            wrong++;
            if (wrong <= 100) {
                System.out.println(what + " answered " + got + ", due is " + want);
            }
        }
    }

    static void holds(String what, boolean is) {
        due(what, is ? 1 : 0, 1);
    }

    static void end() {
        System.out.println(checked + " answers, " + wrong + " of them wrong");
        if (wrong > 0 || checked == 0) {
            System.exit(1);
        }
    }

    /** Lets many minutes pass, 60 at a time, and answers the alarms in them. */
    static int passMany(MuseumNights museum, int minutes) {
        int alarms = 0;
        for (int left = minutes; left > 0; left -= 60) {
            alarms += museum.pass(Math.min(left, 60));
        }
        return alarms;
    }

    static void typeAll(MuseumNights museum, String signs) {
        museum.clearText();
        for (int i = 0; i < signs.length(); i++) {
            museum.type(signs.charAt(i));
        }
    }
}
