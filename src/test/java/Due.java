/** Counts and prints the answers that are not the ones that are due. */
final class Due {
    private static int answers = 0;
    private static int wrong = 0;

    private Due() {
    }

    static void due(String call, int got, int want) {
        answers++;
        if (got != want) {
            wrong++;
            System.out.println(call + " answered " + got + ", due is " + want);
        }
    }

    static int wrong() {
        return wrong;
    }

    /** Ends the test: with exit code 1 if an answer was wrong or if there was none at all. */
    static void end() {
        System.out.println(answers + " answers, " + wrong + " of them wrong");
        if (wrong > 0 || answers == 0) {
            System.exit(1);
        }
    }
}
