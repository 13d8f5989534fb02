/** Counts answers that are not as due; a test ends with exit code 1 if there was one. */
final class Check {
    static final long BEYOND = -1000000001L;
    static final long FULL = -1000000002L;
    static final long KIND = -1000000003L;
    static final long NONE = -1000000004L;
    static final long STATE = -1000000005L;
    static final long MISSING = -1000000006L;
    static final long SIZE = -1000000007L;

    private static int wrong = 0;
    private static int asked = 0;

    private Check() {
    }

    static void due(String what, long want, long got) {
        asked++;
        if (want != got) {
            wrong++;
            System.out.println(what + " answered " + got + ", due is " + want);
        }
    }

    /** Puts a text on the tape, whatever its length. */
    static void feedText(LogRollers x, String text) {
        for (int i = 0; i < text.length(); i++) {
            x.feed(text.charAt(i), 1);
        }
    }

    /** What way() answers to a text on an empty tape. */
    static int tell(LogRollers x, String text) {
        x.wipe();
        feedText(x, text);
        return x.way();
    }

    static void end() {
        System.out.println(wrong == 0 ? asked + " answers are as due" : wrong + " of " + asked + " answers are not as due");
        if (wrong != 0) {
            System.exit(1);
        }
    }
}
