/** How cells are put into lines and lines on pages (terms, for promises 11 to 13): each sentence has a test of its own. */
public final class LinesEdgesTest {
    private static final String OUT = "IndexOutOfBoundsException";
    private static final String EMPTY = "          ";

    public static void main(String[] args) {
        Desk.run(
            LinesEdgesTest::pagesHaveHeightAndWidth,
            LinesEdgesTest::lastLinesHaveNumbers,
            LinesEdgesTest::otherLinesAreForText,
            LinesEdgesTest::paragraphsHaveAnIndentOfTwo,
            LinesEdgesTest::itemsHaveAnIndentOfFour,
            LinesEdgesTest::headingsHaveNoIndent,
            LinesEdgesTest::piecesAreJoinedIfTheRoomSuffices,
            LinesEdgesTest::blanksBetweenAreOne,
            LinesEdgesTest::longPiecesAreCut,
            LinesEdgesTest::longPiecesBeginALine,
            LinesEdgesTest::theRestIsAPiece,
            LinesEdgesTest::headingsAreCentred,
            LinesEdgesTest::linesGoOnTheNextPage,
            LinesEdgesTest::headingsHaveAnEmptyLine,
            LinesEdgesTest::firstHeadingsHaveNone,
            LinesEdgesTest::headingsNeedRoomForOneMore,
            LinesEdgesTest::headingsMoveWithoutEmptyLine,
            LinesEdgesTest::firstHeadingsDoNotMove,
            LinesEdgesTest::breaksBeginAPage,
            LinesEdgesTest::breaksOfAnEmptyPageDoNothing,
            LinesEdgesTest::blocksWithoutPiecesDoNothing);
    }

    /** The first lines of page 1 for one block alone, in a book of width 10. */
    private static void looks(int kind, String text, String... lines) {
        DotBook x = new DotBook(10, 20);
        Desk.block(x, kind, text);
        for (int i = 0; i < lines.length; i++) {
            Desk.due("line " + i + " of [" + text + "]", Desk.line(x, 1, i, 10), lines[i]);
        }
        Desk.due("line behind [" + text + "]", Desk.line(x, 1, lines.length, 10), EMPTY);
    }

    private static void pagesHaveHeightAndWidth() {
        Desk.sentence("Terms, for promise 12", "PAGES have HEIGHT lines of WIDTH cells.");
        DotBook x = new DotBook(12, 6);
        Desk.block(x, Desk.ITEM, "abcdefghijkl");
        Desk.due("the last place", x.at(1, 0, 11), 7);
        Desk.due("no place behind it", Desk.outcome(() -> x.at(1, 0, 12)), OUT);
        Desk.due("the last line", x.at(1, 5, 11), 1);
        Desk.due("no line behind it", Desk.outcome(() -> x.at(1, 6, 0)), OUT);
    }

    private static void lastLinesHaveNumbers() {
        Desk.sentence("Terms, for promise 12",
            "The last line of each has its number (from 1), as a number is translated, at the right end");
        DotBook x = new DotBook(10, 4);
        String lines = "abcdef ".repeat(11).trim();
        for (int b = 0; b < 6; b++) {
            Desk.block(x, Desk.ITEM, b < 5 ? lines : "a");
        }
        // 56 lines, three on each page.
        Desk.due("pages", x.pages(), 19);
        Desk.due("page 1", Desk.line(x, 1, 3, 10), "        #a");
        Desk.due("page 9", Desk.line(x, 9, 3, 10), "        #i");
        Desk.due("page 10", Desk.line(x, 10, 3, 10), "       #aj");
        Desk.due("page 11", Desk.line(x, 11, 3, 10), "       #aa");
        Desk.due("page 19", Desk.line(x, 19, 3, 10), "       #ai");
        Desk.due("the line above it", Desk.line(x, 19, 2, 10), EMPTY);
    }

    private static void otherLinesAreForText() {
        Desk.sentence("Terms, for promise 12", "the others are TEXT lines");
        for (int height = 4; height <= 20; height++) {
            DotBook x = new DotBook(10, height);
            Desk.putLines(x, height);
            Desk.due("last text line of " + height, Desk.line(x, 1, height - 2, 10).trim(), "abcdef");
            Desk.due("number of " + height, Desk.line(x, 1, height - 1, 10), "        #a");
            Desk.due("first text line of page 2", Desk.line(x, 2, 0, 10).trim(), "abcdef");
        }
    }

    private static void paragraphsHaveAnIndentOfTwo() {
        Desk.sentence("Terms, for promise 12", "INDENT is 2 for the first line of a paragraph");
        looks(Desk.PARAGRAPH, "a", "  a       ");
        looks(Desk.PARAGRAPH, "abcdefgh i abcdefgh j", "  abcdefgh", "i abcdefgh", "j         ");
        looks(Desk.PARAGRAPH, "   a", "  a       ");
    }

    private static void itemsHaveAnIndentOfFour() {
        Desk.sentence("Terms, for promise 12", "4 for all but the first of an item, 0 else");
        looks(Desk.ITEM, "a", "a         ");
        looks(Desk.ITEM, "abcdefghij a abcd abcdef b", "abcdefghij", "    a abcd", "    abcdef", "    b     ");
    }

    private static void headingsHaveNoIndent() {
        Desk.sentence("Terms, for promise 12", "0 else");
        looks(Desk.HEADING, "abcdefghij abcdefghij", "abcdefghij", "abcdefghij");
        looks(Desk.PARAGRAPH, "abcdefgh abcdefghij", "  abcdefgh", "abcdefghij");
    }

    private static void piecesAreJoinedIfTheRoomSuffices() {
        Desk.sentence("Terms, for promise 12",
            "A piece is put behind the one before with a blank cell between if the room suffices");
        looks(Desk.PARAGRAPH, "abc defg", "  abc defg");
        looks(Desk.PARAGRAPH, "abcd efgh", "  abcd    ", "efgh      ");
        looks(Desk.PARAGRAPH, "abcdefgh abcd efghi", "  abcdefgh", "abcd efghi");
        looks(Desk.PARAGRAPH, "abcdefgh abcde fghij", "  abcdefgh", "abcde     ", "fghij     ");
        looks(Desk.ITEM, "abcd efghi", "abcd efghi");
        looks(Desk.ITEM, "abcde fghij", "abcde     ", "    fghij ");
        looks(Desk.ITEM, "abcdefghij ab cde", "abcdefghij", "    ab cde");
        looks(Desk.ITEM, "abcdefghij abc def", "abcdefghij", "    abc   ", "    def   ");
        looks(Desk.HEADING, "abcd efghi", "abcd efghi");
        looks(Desk.HEADING, "abcde fghij", "  abcde   ", "  fghij   ");
        looks(Desk.PARAGRAPH, "abcdefg a", "  abcdefg ", "a         ");
        looks(Desk.ITEM, "a b c d e f", "a b c d e ", "    f     ");
    }

    private static void blanksBetweenAreOne() {
        Desk.sentence("Terms, for promise 12", "A block's cells are cut into pieces (as above)");
        looks(Desk.ITEM, "  a    b  ", "a b       ");
        looks(Desk.ITEM, "abcd     efghi", "abcd efghi");
        looks(Desk.ITEM, "a,b 1-2 Ab", "a,b #a-#b ", "    ^ab   ");
        looks(Desk.ITEM, " ".repeat(79) + "a", "a         ");
    }

    private static void longPiecesAreCut() {
        Desk.sentence("Terms, for promise 12",
            "a piece that has more cells than its line has room for is cut: what fits is put");
        looks(Desk.PARAGRAPH, "abcdefgh", "  abcdefgh");
        looks(Desk.PARAGRAPH, "abcdefghi", "  abcdefgh", "i         ");
        looks(Desk.ITEM, "abcdefghij", "abcdefghij");
        looks(Desk.ITEM, "abcdefghijk", "abcdefghij", "    k     ");
        looks(Desk.HEADING, "abcdefghij", "abcdefghij");
        looks(Desk.HEADING, "abcdefghijk", "abcdefghij", "    k     ");
        looks(Desk.ITEM, "abcdefghiJ", "abcdefghi^", "    j     ");
        looks(Desk.ITEM, "abcdefgh1a", "abcdefgh#a", "    ~a    ");
    }

    private static void longPiecesBeginALine() {
        Desk.sentence("Terms, for promise 12", "otherwise into a next line");
        looks(Desk.PARAGRAPH, "a abcdefghijk", "  a       ", "abcdefghij", "k         ");
        looks(Desk.PARAGRAPH, "a abcdefghij", "  a       ", "abcdefghij");
        looks(Desk.ITEM, "a abcdefghijk", "a         ", "    abcdef", "    ghijk ");
        looks(Desk.ITEM, "abcd abcdef", "abcd      ", "    abcdef");
    }

    private static void theRestIsAPiece() {
        Desk.sentence("Terms, for promise 12", "the rest is a piece for the next line, again likewise");
        looks(Desk.PARAGRAPH, "abcdefghijklmnopqr", "  abcdefgh", "ijklmnopqr");
        looks(Desk.PARAGRAPH, "abcdefghijklmnopqrs", "  abcdefgh", "ijklmnopqr", "s         ");
        looks(Desk.ITEM, "abcdefghijklmnop", "abcdefghij", "    klmnop");
        looks(Desk.ITEM, "abcdefghijklmnopqrstuvw", "abcdefghij", "    klmnop", "    qrstuv", "    w     ");
        looks(Desk.ITEM, "abcdefghijk abcd", "abcdefghij", "    k abcd");
        looks(Desk.ITEM, "abcdefghijk abcde", "abcdefghij", "    k     ", "    abcde ");
        looks(Desk.HEADING, "abcdefghijk lmnopqrs", "abcdefghij", "k lmnopqrs");
        looks(Desk.HEADING, "abcdefghijklmnopqrstuvwxyz", "abcdefghij", "klmnopqrst", "  uvwxyz  ");
    }

    private static void headingsAreCentred() {
        Desk.sentence("Terms, for promise 12",
            "A line of a heading with n cells is put (WIDTH - n) / 2 (cut) cells from the left instead.");
        looks(Desk.HEADING, "a", "    a     ");
        looks(Desk.HEADING, "ab", "    ab    ");
        looks(Desk.HEADING, "abcdefgh", " abcdefgh ");
        looks(Desk.HEADING, "abcdefghi", "abcdefghi ");
        looks(Desk.HEADING, "abcdefghij", "abcdefghij");
        looks(Desk.HEADING, "a b", "   a b    ");
        looks(Desk.HEADING, "  A  ", "    ^a    ");
        DotBook x = new DotBook(11, 6);
        Desk.block(x, Desk.HEADING, "a");
        Desk.due("odd in odd", Desk.line(x, 1, 0, 11), "     a     ");
        Desk.block(x, Desk.HEADING, "ab");
        Desk.due("even in odd", Desk.line(x, 1, 2, 11), "    ab     ");
    }

    private static void linesGoOnTheNextPage() {
        Desk.sentence("Terms, for promise 11", "and on a next page when the page has no more");
        DotBook x = new DotBook(10, 4);
        Desk.block(x, Desk.ITEM, "abcdefghij klmnop qrstuv");
        Desk.due("a full page", x.pages(), 1);
        Desk.due("its last text line", Desk.line(x, 1, 2, 10), "    qrstuv");
        Desk.block(x, Desk.PARAGRAPH, "a");
        Desk.due("a line more", x.where(1), 64);
        Desk.due("pages", x.pages(), 2);
        DotBook y = new DotBook(10, 4);
        Desk.block(y, Desk.PARAGRAPH, "abcdefgh bcdefghijk cdefghijkl defghijklm efghijklmn fghijklmno ghijklmnop");
        Desk.due("a block of seven lines", y.pages(), 3);
        Desk.due("page 1", Desk.page(y, 1, 10, 4), "  abcdefgh|bcdefghijk|cdefghijkl|        #a|");
        Desk.due("page 2", Desk.page(y, 2, 10, 4), "defghijklm|efghijklmn|fghijklmno|        #b|");
        Desk.due("page 3", Desk.page(y, 3, 10, 4), "ghijklmnop|          |          |        #c|");
    }

    /** Where a heading begins behind some lines, on pages of 7 text lines. */
    private static void headingBehind(int lines, String heading, int page, int line) {
        DotBook x = new DotBook(10, 8);
        int b = Desk.putLines(x, lines);
        Desk.block(x, Desk.HEADING, heading);
        Desk.due("[" + heading + "] behind " + lines + " lines", x.where(b), page * 32 + line);
    }

    private static void headingsHaveAnEmptyLine() {
        Desk.sentence("Terms, for promise 13", "In front of a heading with lines there is an empty line");
        DotBook x = new DotBook(10, 8);
        Desk.block(x, Desk.ITEM, "a");
        Desk.block(x, Desk.HEADING, "b");
        Desk.block(x, Desk.HEADING, "c");
        Desk.block(x, Desk.ITEM, "d");
        Desk.due("page 1", Desk.page(x, 1, 10, 8),
            "a         |          |    b     |          |    c     |d         |          |        #a|");
        Desk.due("the first line is not the empty one", x.where(1), 32 + 2);
    }

    private static void firstHeadingsHaveNone() {
        Desk.sentence("Terms, for promise 13", "unless it is the first on its page");
        headingBehind(0, "h", 1, 0);
        headingBehind(7, "h", 2, 0);
        headingBehind(8, "h", 2, 2);
        DotBook x = new DotBook(10, 8);
        Desk.block(x, Desk.ITEM, "a");
        Desk.block(x, Desk.BREAK, "");
        Desk.block(x, Desk.HEADING, "h");
        Desk.due("behind a break", x.where(2), 64);
        Desk.block(x, Desk.ITEM, "b");
        Desk.due("the line behind it", x.where(3), 65);
    }

    private static void headingsNeedRoomForOneMore() {
        Desk.sentence("Terms, for promise 13",
            "if then the rest of its page, without that, has not room for its lines and one more");
        headingBehind(1, "h", 1, 2);
        headingBehind(4, "h", 1, 5);
        headingBehind(5, "h", 2, 0);
        headingBehind(6, "h", 2, 0);
        headingBehind(3, "abcdef abcdef", 1, 4);
        headingBehind(4, "abcdef abcdef", 2, 0);
        headingBehind(1, "abcdef ".repeat(4), 1, 2);
        headingBehind(2, "abcdef ".repeat(4), 2, 0);
        headingBehind(1, "abcdef ".repeat(5), 2, 0);
        DotBook x = new DotBook(10, 4);
        Desk.block(x, Desk.HEADING, "h");
        Desk.block(x, Desk.HEADING, "i");
        Desk.due("on pages of 3 text lines", x.where(1), 64);
    }

    private static void headingsMoveWithoutEmptyLine() {
        Desk.sentence("Terms, for promise 13", "it begins the next page instead (without an empty line)");
        DotBook x = new DotBook(10, 4);
        Desk.block(x, Desk.ITEM, "a");
        Desk.block(x, Desk.HEADING, "h");
        Desk.block(x, Desk.ITEM, "b");
        Desk.due("pages", x.pages(), 2);
        Desk.due("page 1", Desk.page(x, 1, 10, 4), "a         |          |          |        #a|");
        Desk.due("page 2", Desk.page(x, 2, 10, 4), "    h     |b         |          |        #b|");
    }

    private static void firstHeadingsDoNotMove() {
        Desk.sentence("Terms, for promise 13", "and it is not the first on its page");
        headingBehind(0, "abcdef ".repeat(6), 1, 0);
        headingBehind(0, "abcdef ".repeat(7), 1, 0);
        headingBehind(0, "abcdef ".repeat(8), 1, 0);
        headingBehind(1, "abcdef ".repeat(7), 2, 0);
        headingBehind(1, "abcdef ".repeat(8), 2, 0);
        headingBehind(7, "abcdef ".repeat(8), 2, 0);
        DotBook x = new DotBook(10, 4);
        Desk.block(x, Desk.ITEM, "a");
        Desk.block(x, Desk.HEADING, "abcdef bcdefg cdefgh defghi");
        Desk.due("one that no page has room for", x.where(1), 64);
        Desk.due("pages", x.pages(), 3);
        Desk.due("its last line", Desk.line(x, 3, 0, 10), "  defghi  ");
    }

    private static void breaksBeginAPage() {
        Desk.sentence("Terms, for promise 13", "A break makes what follows begin a next page");
        for (int kind = Desk.PARAGRAPH; kind <= Desk.ITEM; kind++) {
            DotBook x = new DotBook(10, 8);
            Desk.block(x, Desk.ITEM, "a");
            Desk.block(x, Desk.BREAK, "");
            Desk.block(x, kind, "b");
            Desk.due("kind " + kind, x.where(2), 64);
        }
        DotBook full = new DotBook(10, 4);
        Desk.putLines(full, 3);
        Desk.block(full, Desk.BREAK, "");
        Desk.block(full, Desk.ITEM, "b");
        Desk.due("behind a full page", full.where(2), 64);
        DotBook last = new DotBook(10, 4);
        Desk.putLines(last, 2);
        Desk.block(last, Desk.BREAK, "");
        Desk.block(last, Desk.ITEM, "b");
        Desk.due("before its last line", last.where(2), 64);
    }

    private static void breaksOfAnEmptyPageDoNothing() {
        Desk.sentence("Terms, for promise 13", "unless nothing is on this page yet");
        DotBook x = new DotBook(10, 4);
        Desk.block(x, Desk.BREAK, "");
        Desk.block(x, Desk.BREAK, "abc");
        Desk.block(x, Desk.ITEM, "a");
        Desk.due("two at the beginning", x.where(2), 32);
        Desk.block(x, Desk.BREAK, "");
        Desk.block(x, Desk.BREAK, "");
        Desk.block(x, Desk.BREAK, "");
        Desk.block(x, Desk.ITEM, "b");
        Desk.due("three behind a line", x.where(6), 64);
        Desk.block(x, Desk.BREAK, "");
        Desk.block(x, Desk.PARAGRAPH, "");
        Desk.block(x, Desk.HEADING, "  ");
        Desk.block(x, Desk.BREAK, "");
        Desk.block(x, Desk.ITEM, "c");
        Desk.due("two with empty blocks between", x.where(11), 96);
    }

    private static void blocksWithoutPiecesDoNothing() {
        Desk.sentence("Terms, for promise 13", "A block without pieces has no lines, and does nothing else.");
        String[] texts = {"", " ", " ".repeat(80)};
        for (String text : texts) {
            for (int kind = Desk.PARAGRAPH; kind <= Desk.ITEM; kind++) {
                DotBook x = new DotBook(10, 8);
                Desk.block(x, kind, text);
                Desk.block(x, Desk.ITEM, "a");
                Desk.block(x, kind, text);
                Desk.block(x, Desk.ITEM, "b");
                String what = "kind " + kind + " of " + text.length() + " spaces: ";
                Desk.due(what + "where", x.where(0), -1);
                Desk.due(what + "where again", x.where(2), -1);
                Desk.due(what + "the line behind it", x.where(1), 32);
                Desk.due(what + "the next line", x.where(3), 33);
                Desk.due(what + "page 1", Desk.page(x, 1, 10, 3), "a         |b         |          |");
            }
        }
    }
}
