/** Holds answers against those that are due, and ends a test. */
final class Due {
    private static int right = 0;
    private static int wrong = 0;
    private static String about = "";

    private Due() {
    }

    /** What the next answers are asked for, told ahead of each one that is wrong. */
    static void about(String what) {
        about = what;
    }

    static void is(String what, long got, long want) {
        if (got == want) {
            right++;
        } else {
            wrong++;
            System.out.println(about + what + " answered " + got + ", due is " + want);
        }
    }

    static void holds(String what, boolean it) {
        is(what, it ? 1 : 0, 1);
    }

    static int asked() {
        return right + wrong;
    }

    static void end() {
        System.out.println(right + " answers are as due, " + wrong + " are not");
        if (wrong != 0 || right == 0) {
            System.exit(1);
        }
    }
}
