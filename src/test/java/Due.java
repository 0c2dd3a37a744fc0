/** Counts the answers that are not as due, and ends a test with exit code 1 if there was one. */
final class Due {
    private static int asked;
    private static int wrong;
    private static String heading = "";

    private Due() {
    }

    /** Said ahead of each wrong answer from here on. */
    static void under(String text) {
        heading = "'" + text + "': ";
    }

    static void is(String what, long got, long want) {
        asked++;
        if (got != want) {
            wrong++;
            System.out.println(heading + what + " answered " + got + ", due is " + want);
        }
    }

    static void holds(String what, boolean so) {
        is(what, so ? 1 : 0, 1);
    }

    static void end() {
        System.out.println(asked + " answers asked, " + wrong + " not as due");
        if (wrong != 0 || asked == 0) {
            System.exit(1);
        }
    }
}
