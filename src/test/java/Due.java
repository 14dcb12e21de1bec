/** Counts the answers that are not due, and prints them. */
final class Due {
    private static int checked = 0;
    private static int wrong = 0;
    private static String words = "";

    private Due() {
    }

    /** The words of the document that are told with each wrong answer from here on. */
    static void about(String newWords) {
        words = newWords;
    }

    static void due(String call, long got, long want) {
        checked++;
        if (got != want) {
            wrong++;
            String where = words.isEmpty() ? "" : "'" + words + "': ";
            System.out.println(where + call + " answered " + got + ", due is " + want);
        }
    }

    static void dueTrue(String what, boolean holds) {
        due(what, holds ? 1 : 0, 1);
    }

    static int wrongOnes() {
        return wrong;
    }

    /** Ends the test, with exit code 1 if an answer was wrong. */
    static void end(String test) {
        System.out.println(test + ": " + checked + " answers, " + wrong + " wrong");
        System.exit(wrong == 0 && checked > 0 ? 0 : 1);
    }
}
