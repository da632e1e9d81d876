/** Promises 1 (a new object), 11 (pages), 12 (at), 13 (where), 14 (heading) and 15 (clear). */
public final class PagesTest {
    private static final String OUT = "IndexOutOfBoundsException";

    public static void main(String[] args) {
        Desk.run(
            PagesTest::isNew,
            PagesTest::keepsWidthAndHeightInBounds,
            PagesTest::writesPageNumbers,
            PagesTest::indentsLines,
            PagesTest::joinsPieces,
            PagesTest::cutsLongPieces,
            PagesTest::centresHeadings,
            PagesTest::makesWayForHeadings,
            PagesTest::breaksPages,
            PagesTest::passesOverEmptyBlocks,
            PagesTest::listsHeadings,
            PagesTest::tellsPlaces,
            PagesTest::clears,
            PagesTest::usesBlocksAgain);
    }

    private static void isNew() {
        DotBook x = new DotBook(12, 5);
        Desk.due("pages", x.pages(), 1);
        Desk.due("page 1", Desk.page(x, 1, 12, 5), ("            |".repeat(4) + "          #a|"));
        Desk.due("wrong", x.wrong(), -1);
        Desk.due("heard", x.heard(0), ' ');
        Desk.due("heading", x.heading(0), -1);
        Desk.due("size", Desk.outcome(() -> x.size(0)), OUT);
        Desk.due("where", Desk.outcome(() -> x.where(0)), OUT);
        Desk.due("back", Desk.outcome(() -> x.back(0)), OUT);
        Desk.due("page 2", Desk.outcome(() -> x.at(2, 0, 0)), OUT);
        Desk.due("no rules", Desk.rules(x, false, "a ab=1"), "1");
        Desk.due("nothing typed", x.type('a'), 1);
    }

    private static void keepsWidthAndHeightInBounds() {
        int[] asked = {Integer.MIN_VALUE, -1, 0, 3, 4, 9, 10, 11, 19, 20, 21, 39, 40, 41, Integer.MAX_VALUE};
        for (int size : asked) {
            DotBook x = new DotBook(size, size);
            int width = size < 10 ? 10 : size > 40 ? 40 : size;
            int height = size < 4 ? 4 : size > 20 ? 20 : size;
            Desk.due("last cell of " + size, Desk.outcome(() -> x.at(1, height - 1, width - 1)), "1");
            Desk.due("width of " + size, Desk.outcome(() -> x.at(1, height - 1, width)), OUT);
            Desk.due("height of " + size, Desk.outcome(() -> x.at(1, height, 0)), OUT);
        }
        DotBook x = new DotBook(10, 20);
        Desk.due("width and height are not mixed up", Desk.outcome(() -> x.at(1, 19, 9)), "1");
    }

    private static void writesPageNumbers() {
        DotBook x = new DotBook(10, 4);
        for (int b = 0; b < 5; b++) {
            Desk.block(x, Desk.ITEM, "abcdefghij klmn opqr stuv wxyz abcd efgh ijkl mnop qrst uvwx yzab cdef ghij klmn");
        }
        Desk.due("pages", x.pages(), 5 * 15 / 3);
        Desk.due("page 9", Desk.line(x, 9, 3, 10), "        #i");
        Desk.due("page 10", Desk.line(x, 10, 3, 10), "       #aj");
        Desk.due("page 20", Desk.line(x, 20, 3, 10), "       #bj");
        Desk.due("page 25", Desk.page(x, 25, 10, 4), "    cdef  |    ghij  |    klmn  |       #be|");
        Desk.due("page 26", Desk.outcome(() -> x.at(26, 0, 0)), OUT);
        Desk.due("the last block", x.where(4), 21 * 32);
    }

    private static void indentsLines() {
        DotBook x = new DotBook(10, 20);
        Desk.block(x, Desk.PARAGRAPH, "abcd efg abcd efghi abc");
        Desk.block(x, Desk.ITEM, "abcd efghi abcd e abcdef");
        Desk.due("paragraph, first", Desk.line(x, 1, 0, 10), "  abcd efg");
        Desk.due("paragraph, second", Desk.line(x, 1, 1, 10), "abcd efghi");
        Desk.due("paragraph, third", Desk.line(x, 1, 2, 10), "abc       ");
        Desk.due("item, first", Desk.line(x, 1, 3, 10), "abcd efghi");
        Desk.due("item, second", Desk.line(x, 1, 4, 10), "    abcd e");
        Desk.due("item, third", Desk.line(x, 1, 5, 10), "    abcdef");
        Desk.due("behind", Desk.line(x, 1, 6, 10), "          ");
    }

    private static void joinsPieces() {
        DotBook x = new DotBook(10, 20);
        Desk.block(x, Desk.ITEM, "  ab   cd  ");
        Desk.block(x, Desk.PARAGRAPH, "    abcdefgh    i");
        Desk.block(x, Desk.PARAGRAPH, "abcd  efgh");
        Desk.block(x, Desk.ITEM, "Ab 12 AB");
        Desk.due("one blank between", Desk.line(x, 1, 0, 10), "ab cd     ");
        Desk.due("as many as there is room for", Desk.line(x, 1, 1, 10), "  abcdefgh");
        Desk.due("the next", Desk.line(x, 1, 2, 10), "i         ");
        Desk.due("no room for the blank", Desk.line(x, 1, 3, 10), "  abcd    ");
        Desk.due("the next line", Desk.line(x, 1, 4, 10), "efgh      ");
        Desk.due("signs", Desk.line(x, 1, 5, 10), "^ab #ab   ");
        Desk.due("signs in the next line", Desk.line(x, 1, 6, 10), "    ^^ab  ");
    }

    private static void cutsLongPieces() {
        DotBook x = new DotBook(10, 20);
        Desk.block(x, Desk.PARAGRAPH, "abcdefghijklmnopqrstu vw");
        Desk.block(x, Desk.ITEM, "abcdefghijklmnopqrstuvw xy z");
        Desk.block(x, Desk.PARAGRAPH, "ab cdefghijklmnop");
        Desk.block(x, Desk.ITEM, "abcd efghijkl");
        Desk.due("paragraph", Desk.page(x, 1, 10, 3), "  abcdefgh|ijklmnopqr|stu vw    |");
        Desk.due("item", Desk.line(x, 1, 3, 10), "abcdefghij");
        Desk.due("item, rest", Desk.line(x, 1, 4, 10), "    klmnop");
        Desk.due("item, rest of the rest", Desk.line(x, 1, 5, 10), "    qrstuv");
        Desk.due("item, pieces behind the rest", Desk.line(x, 1, 6, 10), "    w xy z");
        Desk.due("too long for its place", Desk.line(x, 1, 7, 10), "  ab      ");
        Desk.due("it begins a line", Desk.line(x, 1, 8, 10), "cdefghijkl");
        Desk.due("and is cut there", Desk.line(x, 1, 9, 10), "mnop      ");
        Desk.due("item, too long for its place", Desk.line(x, 1, 10, 10), "abcd      ");
        Desk.due("item, the rooms differ", Desk.line(x, 1, 11, 10), "    efghij");
        Desk.due("item, the rest", Desk.line(x, 1, 12, 10), "    kl    ");
    }

    private static void centresHeadings() {
        DotBook x = new DotBook(11, 20);
        Desk.block(x, Desk.HEADING, "abcd efghijk lmnop abc defghijklmnop");
        Desk.due("even", Desk.line(x, 1, 0, 11), "   abcd    ");
        Desk.due("odd", Desk.line(x, 1, 1, 11), "  efghijk  ");
        Desk.due("with a blank", Desk.line(x, 1, 2, 11), " lmnop abc ");
        Desk.due("full", Desk.line(x, 1, 3, 11), "defghijklmn");
        Desk.due("short", Desk.line(x, 1, 4, 11), "    op     ");
    }

    /** Where a heading comes behind some lines, and a line behind it, on pages of 7 text lines. */
    private static void headingBehind(int linesBefore, String heading, int where, int whereNext) {
        DotBook x = new DotBook(10, 8);
        for (int i = 0; i < linesBefore; i++) {
            Desk.block(x, Desk.ITEM, "a");
        }
        Desk.block(x, Desk.HEADING, heading);
        Desk.block(x, Desk.ITEM, "b");
        String what = linesBefore + " lines before [" + heading + "]: ";
        Desk.due(what + "heading", x.where(linesBefore), where);
        Desk.due(what + "next", x.where(linesBefore + 1), whereNext);
    }

    private static void makesWayForHeadings() {
        headingBehind(0, "h", 32, 33);
        headingBehind(1, "h", 32 + 2, 32 + 3);
        headingBehind(4, "h", 32 + 5, 32 + 6);
        headingBehind(5, "h", 64, 65);
        headingBehind(6, "h", 64, 65);
        headingBehind(7, "h", 64, 65);
        headingBehind(8, "h", 64 + 2, 64 + 3);
        String three = "heading-a heading-b heading-c";
        headingBehind(2, three, 32 + 3, 32 + 6);
        headingBehind(3, three, 64, 64 + 3);
        String seven = "abcdefgh ".repeat(7);
        headingBehind(0, seven, 32, 64);
        headingBehind(1, seven, 64, 96);
        headingBehind(0, seven + "abcdefgh", 32, 64 + 1);
        headingBehind(1, seven + "abcdefgh", 64, 96 + 1);

        DotBook x = new DotBook(10, 8);
        Desk.block(x, Desk.ITEM, "a");
        Desk.block(x, Desk.HEADING, "bb");
        Desk.block(x, Desk.HEADING, "cc");
        Desk.due("empty lines in front", Desk.page(x, 1, 10, 6),
            "a         |          |    bb    |          |    cc    |          |");
        Desk.block(x, Desk.HEADING, "dd");
        Desk.due("the third has no room", x.where(3), 64);
        Desk.due("no empty line at the top", Desk.line(x, 2, 0, 10), "    dd    ");
    }

    private static void breaksPages() {
        DotBook x = new DotBook(10, 4);
        Desk.block(x, Desk.BREAK, "");
        Desk.block(x, Desk.ITEM, "a");
        Desk.due("nothing was on the page", x.where(1), 32);
        Desk.block(x, Desk.BREAK, "");
        Desk.due("a break has no lines", x.where(2), -1);
        Desk.due("nothing follows yet", x.pages(), 1);
        Desk.due("no second page yet", Desk.outcome(() -> x.at(2, 0, 0)), OUT);
        Desk.block(x, Desk.BREAK, "");
        Desk.block(x, Desk.HEADING, "h");
        Desk.due("two breaks are one", x.where(4), 64);
        Desk.due("pages", x.pages(), 2);
        Desk.block(x, Desk.ITEM, "b");
        Desk.block(x, Desk.ITEM, "c");
        Desk.block(x, Desk.BREAK, "");
        Desk.block(x, Desk.ITEM, "d");
        Desk.due("behind a full page", x.where(8), 96);
        Desk.block(x, Desk.BREAK, "");
        Desk.block(x, Desk.PARAGRAPH, "   ");
        Desk.block(x, Desk.PARAGRAPH, "e");
        Desk.due("with nothing between", x.where(11), 128);
    }

    private static void passesOverEmptyBlocks() {
        DotBook x = new DotBook(10, 8);
        Desk.block(x, Desk.ITEM, "a");
        Desk.block(x, Desk.HEADING, "   ");
        Desk.block(x, Desk.PARAGRAPH, "");
        Desk.block(x, Desk.ITEM, " ");
        Desk.block(x, Desk.ITEM, "b");
        for (int b = 1; b <= 3; b++) {
            Desk.due("where " + b, x.where(b), -1);
        }
        Desk.due("the next line", x.where(4), 33);
    }

    private static void listsHeadings() {
        DotBook only = new DotBook(10, 8);
        Desk.block(only, Desk.HEADING, "h");
        Desk.due("the first block", only.heading(0), 0);
        DotBook x = new DotBook(10, 8);
        Desk.block(x, Desk.ITEM, "a");
        Desk.block(x, Desk.HEADING, "h");
        Desk.block(x, Desk.HEADING, " ");
        Desk.block(x, Desk.HEADING, "");
        Desk.block(x, Desk.BREAK, "");
        Desk.block(x, Desk.HEADING, "i");
        Desk.due("first", x.heading(0), 1);
        Desk.due("second", x.heading(1), 5);
        int[] none = {-1, 2, 3, 12, Integer.MIN_VALUE, Integer.MAX_VALUE};
        for (int i : none) {
            Desk.due("heading " + i, x.heading(i), -1);
        }
    }

    private static void tellsPlaces() {
        DotBook x = new DotBook(10, 4);
        Desk.block(x, Desk.ITEM, "a");
        Desk.block(x, Desk.PARAGRAPH, "abcdefgh abcdefghij abcdefghij");
        Desk.due("the second block", x.where(1), 33);
        Desk.due("page 1", Desk.page(x, 1, 10, 4), "a         |  abcdefgh|abcdefghij|        #a|");
        Desk.due("page 2", Desk.page(x, 2, 10, 4), "abcdefghij|          |          |        #b|");
        Desk.due("pages", x.pages(), 2);
        int[][] noPlaces = {
            {0, 0, 0}, {-1, 0, 0}, {3, 0, 0}, {1, -1, 0}, {1, 4, 0}, {1, 0, -1}, {1, 0, 10}, {1, 3, 10}, {2, 3, -1},
            {Integer.MAX_VALUE, 0, 0}, {Integer.MIN_VALUE, 0, 0}, {1, Integer.MAX_VALUE, 0}, {1, Integer.MIN_VALUE, 0},
            {1, 0, Integer.MAX_VALUE}, {1, 0, Integer.MIN_VALUE},
        };
        for (int[] p : noPlaces) {
            Desk.due("at " + p[0] + " " + p[1] + " " + p[2], Desk.outcome(() -> x.at(p[0], p[1], p[2])), OUT);
        }
        int[] noBlocks = {-1, 2, 12, Integer.MIN_VALUE, Integer.MAX_VALUE};
        for (int b : noBlocks) {
            Desk.due("where " + b, Desk.outcome(() -> x.where(b)), OUT);
        }
    }

    private static void clears() {
        DotBook x = Desk.withRules(10, 4, "a ab=6-4");
        Desk.rules(x, true, "a xy=1;no");
        Desk.block(x, Desk.HEADING, "abcdefghij abcdefghij abcdefghij abcdefghij");
        Desk.block(x, Desk.BREAK, "");
        x.back(0);
        Desk.typed(x, "ab");
        x.clear();
        Desk.due("pages", x.pages(), 1);
        Desk.due("page 1", Desk.page(x, 1, 10, 4), "          |".repeat(3) + "        #a|");
        Desk.due("heading", x.heading(0), -1);
        Desk.due("size", Desk.outcome(() -> x.size(0)), OUT);
        Desk.due("cell", Desk.outcome(() -> x.cell(0, 0)), OUT);
        Desk.due("where", Desk.outcome(() -> x.where(0)), OUT);
        Desk.due("back", Desk.outcome(() -> x.back(0)), OUT);
        Desk.due("heard stays", x.heard(0), '#');
        Desk.due("wrong stays", x.wrong(), 1);
        Desk.due("typed stays", x.type('a'), 3);
        Desk.due("a first block again", x.block(Desk.ITEM), 1);
        Desk.due("rules stay", Desk.cells(x, 0), "32 8 1");
        Desk.due("on the first line", x.where(0), 32);
        Desk.due("of a book of one page", x.pages(), 1);
        for (int b = 2; b <= 12; b++) {
            Desk.due("there is room for all blocks", Desk.block(x, Desk.PARAGRAPH, ""), b);
        }
    }

    private static void usesBlocksAgain() {
        DotBook x = new DotBook(10, 4);
        for (int turn = 0; turn < 5; turn++) {
            Desk.block(x, Desk.HEADING, "abcdefghij ".repeat(7));
            Desk.due("the seventh line", Desk.line(x, 3, 0, 10), "abcdefghij");
            x.clear();
        }
        Desk.block(x, Desk.PARAGRAPH, "kl");
        Desk.block(x, Desk.ITEM, "mn");
        Desk.due("nothing of earlier blocks", Desk.page(x, 1, 10, 4), "  kl      |mn        |          |        #a|");
        Desk.due("pages", x.pages(), 1);
    }
}
