import java.util.function.Supplier;

/** What the tests have in common: ways to fill an object, to show what it holds, and to count what is not due. */
final class Desk {
    static final int PARAGRAPH = 0;
    static final int HEADING = 1;
    static final int ITEM = 2;
    static final int BREAK = 3;

    private static final String LETTERS_AND_MARKS = "abcdefghijklmnopqrstuvwxyz.,;:?!-'";
    private static final int[] THEIR_CELLS = {
        1, 3, 9, 25, 17, 11, 27, 19, 10, 26, 5, 7, 13, 29, 21, 15, 31, 23, 14, 30, 37, 39, 58, 45, 61, 53,
        50, 2, 6, 18, 38, 22, 36, 4
    };

    private static final String PIECE = "abcdef";
    private static final int MOST_PIECES = 11;

    private static int compared = 0;
    private static int failures = 0;
    private static String sentence = "";
    private static int comparedBefore = 0;

    private Desk() {
    }

    static void due(String what, Object got, Object due) {
        compared++;
        if (!String.valueOf(got).equals(String.valueOf(due))) {
            failures++;
            System.out.println(sentence + what + " answered " + got + ", due is " + due);
        }
    }

    /** Runs tests that stand each for itself: what one of them throws is its own failure, and the next one follows. */
    static void run(Runnable... tests) {
        for (Runnable test : tests) {
            try {
                test.run();
            } catch (RuntimeException e) {
                failures++;
                System.out.println(sentence + "threw " + e + " at " + e.getStackTrace()[0]);
            }
        }
        end();
    }

    /** Begins the test of one sentence of the document, which is told with every answer that is not due. */
    static void sentence(String place, String words) {
        sentence(place, words, "");
    }

    /** The test of one case of a sentence that names several, or of what it leaves to be understood. */
    static void sentence(String place, String words, String meant) {
        endSentence();
        sentence = place + ", \"" + words + "\"" + (meant.isEmpty() ? "" : " (" + meant + ")") + ": ";
        comparedBefore = compared;
    }

    private static void endSentence() {
        if (!sentence.isEmpty() && compared == comparedBefore) {
            failures++;
            System.out.println(sentence + "no answer was looked at");
        }
    }

    /** Ends the test: with exit code 1 if an answer was not due, or none was looked at. */
    static void end() {
        endSentence();
        System.out.println(compared + " answers, " + failures + " of them not as due");
        if (failures > 0 || compared == 0) {
            System.exit(1);
        }
    }

    /** The answer of a call, or the name of what it throws. */
    static String outcome(Supplier<Object> call) {
        try {
            return String.valueOf(call.get());
        } catch (RuntimeException e) {
            return e.getClass().getSimpleName();
        }
    }

    static DotBook typed(DotBook x, String text) {
        for (char c : text.toCharArray()) {
            x.type(c);
        }
        return x;
    }

    static String rules(DotBook x, boolean lenient, String text) {
        typed(x, text);
        return outcome(() -> x.rules(lenient));
    }

    static DotBook withRules(int width, int height, String... texts) {
        DotBook x = new DotBook(width, height);
        for (String text : texts) {
            typed(x, text).rules(false);
        }
        return x;
    }

    static String block(DotBook x, int kind, String text) {
        typed(x, text);
        return outcome(() -> x.block(kind));
    }

    /** Puts lines into a book of width 10, by items with a piece on each line: how many blocks it took. */
    static int putLines(DotBook x, int count) {
        int blocks = 0;
        for (int left = count; left > 0; left -= MOST_PIECES) {
            block(x, ITEM, (PIECE + " ").repeat(Math.min(left, MOST_PIECES)).trim());
            blocks++;
        }
        return blocks;
    }

    /** How many characters are typed, found out by typing one more; what is typed is gone then. */
    static int countTyped(DotBook x) {
        String count = outcome(() -> x.type(' '));
        x.wipe();
        return count.equals("IllegalStateException") ? 80 : Integer.parseInt(count) - 1;
    }

    static String cells(DotBook x, int b) {
        StringBuilder all = new StringBuilder();
        for (int i = 0; i < x.size(b); i++) {
            all.append(i == 0 ? "" : " ").append(x.cell(b, i) % 64);
        }
        return all.toString();
    }

    static String origins(DotBook x, int b) {
        StringBuilder all = new StringBuilder();
        for (int i = 0; i < x.size(b); i++) {
            all.append(i == 0 ? "" : " ").append(x.cell(b, i) / 64);
        }
        return all.toString();
    }

    static String heard(DotBook x, int b) {
        int count = x.back(b);
        StringBuilder all = new StringBuilder();
        for (int i = 0; i < count; i++) {
            all.append(x.heard(i));
        }
        return all.toString();
    }

    /** A line as it looks: letters and marks for their cells, ^ # ~ for CAPITAL, NUMBER, LETTER, a space for blank. */
    static String line(DotBook x, int page, int line, int width) {
        StringBuilder all = new StringBuilder();
        for (int place = 0; place < width; place++) {
            all.append(looks(x.at(page, line, place)));
        }
        return all.toString();
    }

    static String page(DotBook x, int page, int width, int height) {
        StringBuilder all = new StringBuilder();
        for (int line = 0; line < height; line++) {
            all.append(line(x, page, line, width)).append('|');
        }
        return all.toString();
    }

    private static char looks(int cell) {
        for (int i = 0; i < THEIR_CELLS.length; i++) {
            if (THEIR_CELLS[i] == cell) {
                return LETTERS_AND_MARKS.charAt(i);
            }
        }
        return cell == 0 ? ' ' : cell == 32 ? '^' : cell == 60 ? '#' : cell == 48 ? '~' : '*';
    }
}
