/** Counts and prints the answers that are not the ones that are due. */
final class Due {
    private static String sentence = "";
    private static int answers = 0;
    private static int wrong = 0;

    private Due() {
    }

    /** Runs the test of a sentence of the document, which is quoted with each wrong answer. */
    static void sentence(String where, String quote, Runnable test) {
        sentence = where + ": \"" + quote + "\": ";
        int before = answers;
        test.run();
        if (answers == before) {
            wrong++;
            System.out.println(sentence + "nothing was asked");
        }
        sentence = "";
    }

    static void due(String call, int got, int want) {
        answers++;
        if (got != want) {
            wrong++;
            System.out.println(sentence + call + " answered " + got + ", due is " + want);
        }
    }

    /** The LEDs of a row from column 0 on, a digit for each: 0 dark, 1 red, 2 green, 3 yellow. */
    static void dueRow(String when, MarqueeDisplay x, int row, String want) {
        for (int column = 0; column < want.length(); column++) {
            due("pixel(" + row + ", " + column + ") " + when,
                    x.pixel(row, column), want.charAt(column) - '0');
        }
    }

    static int wrong() {
        return wrong;
    }

    /** Ends the test: with exit code 1 if an answer was wrong or if there was none at all. */
    static void end() {
        System.out.println(answers + " answers, " + wrong + " of them wrong");
        if (wrong > 0 || answers == 0) {
            System.exit(1);
        }
    }
}
