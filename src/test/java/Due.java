/** Compares answers with what is due and tells of each that differs. */
final class Due {
    private static int wrong = 0;
    private static String about = "";

    private Due() {
    }

    /** What the answers from here on are about. */
    static void about(String what) {
        about = "[" + what + "] ";
    }

    static void is(String call, long got, long want) {
        if (got != want) {
            wrong++;
            System.out.println(about + call + " answered " + got + ", due is " + want);
        }
    }

    static void holds(String what, boolean so) {
        if (!so) {
            wrong++;
            System.out.println(about + "does not hold: " + what);
        }
    }

    static void end() {
        if (wrong != 0) {
            System.out.println(wrong + " answers are not as due");
            System.exit(1);
        }
    }
}
