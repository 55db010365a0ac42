/** Counts the answers that are not the ones that are due, and ends a test with 1 if there were any. */
final class Check {
    private static final int MOST_PRINTED = 40;
    private static int answers = 0;
    private static int wrong = 0;
    private static int sentences = 0;
    private static int answersBefore = 0;
    private static String sentence = "";

    private Check() {
    }

    /**
     * The document's words that the answers from here on are due by, behind the number of their
     * promise if they stand in one; [..] stands where words are left out.
     */
    static void sentence(String words) {
        endSentence();
        sentences++;
        sentence = "\"" + words + "\"";
    }

    /** One case of what the document's words say, where they have several. */
    static void sentence(String words, String oneCase) {
        sentence(words);
        sentence += " (" + oneCase + ")";
    }

    /** A sentence that no answer was looked at for would seem to hold, whatever the program does. */
    private static void endSentence() {
        if (sentences > 0 && answers == answersBefore) {
            fail(sentence + " has no answers");
        }
        answersBefore = answers;
    }

    static void due(String what, long got, long want) {
        answers++;
        if (got != want) {
            fail(told(what) + " answered " + got + ", due is " + want);
        }
    }

    static void same(String what, String got, String want) {
        answers++;
        if (!got.equals(want)) {
            fail(told(what) + " answered\n" + got + ", due is\n" + want);
        }
    }

    static void yes(String what, boolean got) {
        due(what, got ? 1 : 0, 1);
    }

    static void no(String what, boolean got) {
        due(what, got ? 1 : 0, 0);
    }

    static boolean allAreDue() {
        return wrong == 0;
    }

    static void end() {
        endSentence();
        String by = sentences == 0 ? "" : " in " + sentences + " tests of sentences";
        System.out.println(wrong == 0 ? "all " + answers + " answers are as due" + by : wrong + " of " + answers + " answers are not as due");
        if (wrong != 0 || answers == 0) {
            System.exit(1);
        }
    }

    private static String told(String what) {
        return sentence.isEmpty() ? what : sentence + ": " + what;
    }

    private static void fail(String message) {
        wrong++;
        if (wrong <= MOST_PRINTED) {
            System.out.println(message);
        }
    }
}
