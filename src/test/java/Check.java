/** Counts the answers that are not the ones that are due, and ends a test with 1 if there were any. */
final class Check {
    private static final int MOST_PRINTED = 40;
    private static int answers = 0;
    private static int wrong = 0;

    private Check() {
    }

    static void due(String what, long got, long want) {
        answers++;
        if (got != want) {
            wrong++;
            if (wrong <= MOST_PRINTED) {
                System.out.println(what + " answered " + got + ", due is " + want);
            }
        }
    }

    static void yes(String what, boolean got) {
        due(what, got ? 1 : 0, 1);
    }

    static void no(String what, boolean got) {
        due(what, got ? 1 : 0, 0);
    }

    static boolean allAreDue() {
        return wrong == 0;
    }

    static void end() {
        System.out.println(wrong == 0 ? "all " + answers + " answers are as due" : wrong + " of " + answers + " answers are not as due");
        if (wrong != 0 || answers == 0) {
            System.exit(1);
        }
    }
}
