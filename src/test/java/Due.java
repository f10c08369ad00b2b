/** Counts the answers that are not the ones that are due. */
final class Due {
    private static int asked = 0;
    private static int wrong = 0;
    private static String now = "";

    private Due() {
    }

    /** What is said from here on is said of that case. */
    static void begin(String what) {
        now = what + ": ";
    }

    static void is(String what, long got, long want) {
        asked++;
        if (got != want) {
            wrong++;
            System.out.println(now + what + " answered " + got + ", due is " + want);
        }
    }

    static void holds(String what, boolean so) {
        asked++;
        if (!so) {
            wrong++;
            System.out.println("not so: " + now + what);
        }
    }

    static int wrong() {
        return wrong;
    }

    static void end() {
        System.out.println(asked + " answers, " + wrong + " not as due");
        if (wrong != 0) {
            System.exit(1);
        }
    }
}
