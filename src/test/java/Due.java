/** Counts and prints the answers that are not the ones that are due. */
final class Due {
    private static int wrong = 0;

    private Due() {
    }

    static void is(String what, long got, long want) {
        if (got != want) {
            wrong++;
            System.out.println(what + " answered " + got + ", due is " + want);
        }
    }

    static void holds(String what, boolean held) {
        if (!held) {
            wrong++;
            System.out.println(what + ": does not hold");
        }
    }

    static void end() {
        System.out.println(wrong == 0 ? "all answers are as due" : wrong + " answers are not as due");
        if (wrong != 0) {
            System.exit(1);
        }
    }
}
