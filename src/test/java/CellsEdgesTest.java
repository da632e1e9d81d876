/** What cells are and mean (terms, for promises 6, 8 and 9): each sentence has a test of its own. */
public final class CellsEdgesTest {
    private static final String LETTERS = "abcdefghijklmnopqrstuvwxyz";
    private static final int[] LETTER_CELLS = {
        1, 3, 9, 25, 17, 11, 27, 19, 10, 26, 5, 7, 13, 29, 21, 15, 31, 23, 14, 30, 37, 39, 58, 45, 61, 53
    };
    private static final String MARKS = ".,;:?!-'";
    private static final int[] MARK_CELLS = {50, 2, 6, 18, 38, 22, 36, 4};

    public static void main(String[] args) {
        Desk.run(
            CellsEdgesTest::aCellIsTheSumOfItsDots,
            CellsEdgesTest::blankIsNone,
            CellsEdgesTest::lettersHaveTheirCells,
            CellsEdgesTest::marksHaveTheirCells,
            CellsEdgesTest::signsHaveTheirCells,
            CellsEdgesTest::marksAndSpacesAreSingle,
            CellsEdgesTest::otherCellsMeanNothing,
            CellsEdgesTest::piecesAreReadFromLeftToRight,
            CellsEdgesTest::aRuleGivesItsLetters);
    }

    /** The digits of a cell's dots. */
    private static String dotsOf(int cell) {
        StringBuilder dots = new StringBuilder();
        for (int d = 1; d <= 6; d++) {
            if ((cell >> (d - 1)) % 2 == 1) {
                dots.append(d);
            }
        }
        return dots.toString();
    }

    private static String cellsOf(String text) {
        DotBook x = new DotBook(10, 4);
        Desk.block(x, Desk.PARAGRAPH, text);
        return Desk.cells(x, 0);
    }

    /** What is heard of a cell with two more behind it, by no rule. */
    private static String heardOf(int cell) {
        DotBook x = Desk.withRules(10, 4, "w vw=" + dotsOf(cell));
        Desk.block(x, Desk.PARAGRAPH, "vw-x");
        return Desk.heard(x, 0);
    }

    private static void aCellIsTheSumOfItsDots() {
        Desk.sentence("Terms, for promise 8",
            "A CELL has DOTS, of 1 .. 6, and is told as the sum of 2^(d - 1) for its dots d");
        for (int cell = 1; cell <= 63; cell++) {
            DotBook x = Desk.withRules(10, 4, "a xy=" + dotsOf(cell));
            Desk.block(x, Desk.PARAGRAPH, "-xy");
            Desk.due("dots " + dotsOf(cell), x.cell(0, 1), cell + 64);
        }
    }

    private static void blankIsNone() {
        Desk.sentence("Terms, for promise 8", "0 is BLANK");
        Desk.due("a space", cellsOf(" "), "0");
        DotBook x = new DotBook(10, 4);
        Desk.due("an empty place of a page", x.at(1, 0, 0), 0);
        Desk.due("a place before the number", x.at(1, 3, 7), 0);
    }

    private static void lettersHaveTheirCells() {
        Desk.sentence("Terms, for promise 6", "The small letters a .. z have the cells 1, 3, 9, 25");
        for (int i = 0; i < LETTER_CELLS.length; i++) {
            String letter = LETTERS.substring(i, i + 1);
            Desk.due(letter, cellsOf(letter), LETTER_CELLS[i]);
            Desk.due("capital " + letter, cellsOf(letter.toUpperCase()), "32 " + LETTER_CELLS[i]);
            Desk.due("cell of " + letter + ", heard", heardOf(LETTER_CELLS[i]), letter + "-x");
        }
    }

    private static void marksHaveTheirCells() {
        Desk.sentence("Terms, for promise 6", "the MARKS . , ; : ? ! - ' have 50, 2, 6, 18, 38, 22, 36, 4");
        for (int i = 0; i < MARK_CELLS.length; i++) {
            String mark = MARKS.substring(i, i + 1);
            Desk.due(mark, cellsOf(mark), MARK_CELLS[i]);
            Desk.due("cell of " + mark + ", heard", heardOf(MARK_CELLS[i]), mark + "-x");
        }
    }

    private static void signsHaveTheirCells() {
        Desk.sentence("Terms, for promise 6", "The SIGNS are CAPITAL 32, NUMBER 60, LETTER 48.");
        Desk.due("capital", cellsOf("K"), "32 5");
        Desk.due("number and letter", cellsOf("1a"), "60 1 48 1");
        Desk.due("CAPITAL, heard", heardOf(32), "-X");
        Desk.due("NUMBER, heard", heardOf(60), "-x");
        Desk.due("LETTER, heard", heardOf(48), "-x");
    }

    private static void marksAndSpacesAreSingle() {
        Desk.sentence("Terms, for promise 6", "and single marks and spaces");
        Desk.due("marks", cellsOf("..-"), "50 50 36");
        Desk.due("spaces", cellsOf("   "), "0 0 0");
        Desk.due("a word between", cellsOf("-a-"), "36 1 36");
        DotBook x = new DotBook(10, 4);
        Desk.block(x, Desk.PARAGRAPH, "..  ");
        Desk.due("origins", Desk.origins(x, 0), "0 1 2 3");
    }

    private static void otherCellsMeanNothing() {
        Desk.sentence("Terms, for promise 9", "any other one gives #");
        String known = " 32 60 48 ";
        for (int cell : LETTER_CELLS) {
            known += cell + " ";
        }
        for (int cell : MARK_CELLS) {
            known += cell + " ";
        }
        for (int cell = 1; cell <= 63; cell++) {
            if (!known.contains(" " + cell + " ")) {
                Desk.due("cell " + cell, heardOf(cell), "#-x");
            }
        }
    }

    private static void piecesAreReadFromLeftToRight() {
        Desk.sentence("Terms, for promise 9", "A piece is read from left to right.");
        DotBook x = new DotBook(10, 4);
        Desk.block(x, Desk.PARAGRAPH, "aaa aba");
        Desk.rules(x, false, "a vw=1-1;a xy=12-1");
        Desk.due("the rule takes the cells on the left", Desk.heard(x, 0), "vwa axy");
    }

    private static void aRuleGivesItsLetters() {
        Desk.sentence("Terms, for promise 9", "it gives its letters");
        DotBook x = new DotBook(10, 4);
        Desk.block(x, Desk.PARAGRAPH, "ab");
        Desk.rules(x, false, "b uvwxyz=1;e st=12");
        Desk.due("six and two", Desk.heard(x, 0), "uvwxyzst");
    }
}
