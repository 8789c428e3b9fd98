/** Compares answers with those that are due, and ends a test with exit code 1 if one was wrong. */
final class Check {
    static final int UNKNOWN = -1;
    static final int BAD_VALUE = -2;
    static final int FULL = -3;
    static final int NOT_POSSIBLE = -4;
    static final int NONE = -5;

    private static int wrong = 0;
    private static int checked = 0;

    private Check() {
    }

    static void due(String what, long got, long want) {
        checked++;
        if (got != want) {
            wrong++;
            if (wrong <= 100) {
                System.out.println(what + " answered " + got + ", due is " + want);
            }
        }
    }

    static void holds(String what, boolean is) {
        due(what, is ? 1 : 0, 1);
    }

    static void end() {
        System.out.println(checked + " answers, " + wrong + " of them wrong");
        if (wrong > 0 || checked == 0) {
            System.exit(1);
        }
    }

    /** Types these signs in place of the text that was. */
    static void typeAll(MuseumNights museum, String signs) {
        museum.clearText();
        Museums.type(museum, signs);
    }
}
