/**
 * The edges of promises 11 (pages), 12 (at), 13 (where), 14 (heading) and 15 (clear), and of an object's 512 calls: each
 * sentence has a test of its own.
 */
public final class PagesEdgesTest {
    private static final String OUT = "IndexOutOfBoundsException";
    private static final int LEAST = Integer.MIN_VALUE;
    private static final int GREATEST = Integer.MAX_VALUE;
    private static final int CALLS = 512;

    public static void main(String[] args) {
        Desk.run(
            PagesEdgesTest::countsPagesWithLines,
            PagesEdgesTest::countsOnePageAtLeast,
            PagesEdgesTest::countsPagesFromOne,
            PagesEdgesTest::refusesOtherPages,
            PagesEdgesTest::refusesOtherLines,
            PagesEdgesTest::refusesOtherPlaces,
            PagesEdgesTest::answersForAFullBook,
            PagesEdgesTest::refusesAPageThatOnlyABreakMade,
            PagesEdgesTest::tellsPageAndLine,
            PagesEdgesTest::tellsBlocksWithoutLines,
            PagesEdgesTest::refusesOtherBlocks,
            PagesEdgesTest::listsHeadingsWithLines,
            PagesEdgesTest::listsNoOtherHeadings,
            PagesEdgesTest::clearsTheBook,
            PagesEdgesTest::clearsThePlaceBehindTheLastBlock,
            PagesEdgesTest::clearsAnEmptyBook,
            PagesEdgesTest::clearsWhatALongerBlockHad,
            PagesEdgesTest::clearLeavesTheRest,
            PagesEdgesTest::answersTheLastOfItsCalls,
            PagesEdgesTest::fillsTheBookAgainAndAgain,
            PagesEdgesTest::fillsLongBlocksAgainAndAgain,
            PagesEdgesTest::readsBackAgainAndAgain);
    }

    private static void countsPagesWithLines() {
        Desk.sentence("Promise 11", "How many pages there are: those with lines");
        DotBook x = new DotBook(10, 4);
        Desk.putLines(x, 3);
        Desk.due("a full page", x.pages(), 1);
        Desk.block(x, Desk.BREAK, "");
        Desk.due("a break behind it", x.pages(), 1);
        Desk.block(x, Desk.PARAGRAPH, "  ");
        Desk.due("a block without lines behind that", x.pages(), 1);
        Desk.block(x, Desk.ITEM, "a");
        Desk.due("a line behind that", x.pages(), 2);
        Desk.block(x, Desk.BREAK, "");
        Desk.due("a break at the end", x.pages(), 2);
        Desk.block(x, Desk.HEADING, "h");
        Desk.due("a heading behind it", x.pages(), 3);
    }

    private static void countsOnePageAtLeast() {
        Desk.sentence("Promise 11", "but one at least");
        DotBook x = new DotBook(10, 4);
        Desk.due("a new object", x.pages(), 1);
        Desk.block(x, Desk.BREAK, "");
        Desk.due("a break alone", x.pages(), 1);
        Desk.block(x, Desk.PARAGRAPH, "");
        Desk.block(x, Desk.HEADING, " ");
        Desk.due("blocks without lines", x.pages(), 1);
        x.clear();
        Desk.due("behind clear", x.pages(), 1);
    }

    /** Two pages of 10 cells and 4 lines, all of their text lines full. */
    private static DotBook ofTwoPages() {
        DotBook x = new DotBook(10, 4);
        Desk.block(x, Desk.ITEM, "abcdefghij klmnop qrstuv wxyzab cdefgh ijklmn");
        return x;
    }

    private static void countsPagesFromOne() {
        Desk.sentence("Promise 12", "(pages from 1, lines and places from 0)");
        DotBook x = ofTwoPages();
        Desk.due("page 1", Desk.page(x, 1, 10, 4), "abcdefghij|    klmnop|    qrstuv|        #a|");
        Desk.due("page 2", Desk.page(x, 2, 10, 4), "    wxyzab|    cdefgh|    ijklmn|        #b|");
    }

    private static void refusesOtherPages() {
        Desk.sentence("Promise 12", "IndexOutOfBoundsException: there is no such page");
        DotBook x = ofTwoPages();
        int[] none = {LEAST, -1, 0, 3, 4, GREATEST};
        for (int page : none) {
            Desk.due("page " + page, Desk.outcome(() -> x.at(page, 0, 0)), OUT);
            Desk.due("number of page " + page, Desk.outcome(() -> x.at(page, 3, 9)), OUT);
        }
        Desk.due("page 1", x.at(1, 0, 0), 1);
        Desk.due("page 2", x.at(2, 0, 4), 58);
    }

    private static void refusesOtherLines() {
        Desk.sentence("Promise 12", "there is no such page, line or place", "line");
        DotBook x = ofTwoPages();
        int[] none = {LEAST, -1, 4, 5, 20, GREATEST};
        for (int line : none) {
            Desk.due("line " + line, Desk.outcome(() -> x.at(1, line, 0)), OUT);
            Desk.due("line " + line + " of the last page", Desk.outcome(() -> x.at(2, line, 9)), OUT);
        }
        Desk.due("line 0", x.at(1, 0, 0), 1);
        Desk.due("line 3", x.at(1, 3, 9), 1);
    }

    private static void refusesOtherPlaces() {
        Desk.sentence("Promise 12", "there is no such page, line or place", "place");
        DotBook x = ofTwoPages();
        int[] none = {LEAST, -1, 10, 11, 40, GREATEST};
        for (int place : none) {
            Desk.due("place " + place, Desk.outcome(() -> x.at(1, 0, place)), OUT);
            Desk.due("place " + place + " by the number", Desk.outcome(() -> x.at(1, 3, place)), OUT);
        }
        Desk.due("place 0", x.at(1, 0, 0), 1);
        Desk.due("place 9", x.at(1, 0, 9), 26);
    }

    private static void answersForAFullBook() {
        Desk.sentence("Promise 12", "The cell at a place of a line of a page", "of twelve blocks, and of none of them");
        DotBook x = new DotBook(10, 20);
        for (int b = 0; b < 12; b++) {
            Desk.block(x, Desk.ITEM, "a");
        }
        Desk.due("the twelfth block", x.at(1, 11, 0), 1);
        Desk.due("a place behind its cell", x.at(1, 11, 1), 0);
        Desk.due("the line behind it", x.at(1, 12, 0), 0);
        Desk.due("the last text line", x.at(1, 18, 9), 0);
    }

    private static void refusesAPageThatOnlyABreakMade() {
        Desk.sentence("Promise 12", "there is no such page", "behind a break at the end");
        DotBook x = ofTwoPages();
        Desk.block(x, Desk.BREAK, "");
        Desk.due("page 3", Desk.outcome(() -> x.at(3, 0, 0)), OUT);
        Desk.block(x, Desk.ITEM, "a");
        Desk.due("page 3, with a line", x.at(3, 0, 0), 1);
    }

    private static void tellsPageAndLine() {
        Desk.sentence("Promise 13", "Where the first line of block b is: page * 32 + line");
        DotBook x = new DotBook(10, 20);
        Desk.block(x, Desk.ITEM, "a");
        Desk.due("the first line", x.where(0), 32);
        Desk.putLines(x, 17);
        Desk.due("blocks of many lines", x.where(1) + " " + x.where(2), "33 44");
        Desk.block(x, Desk.ITEM, "a");
        Desk.due("the last text line of a page", x.where(3), 32 + 18);
        Desk.block(x, Desk.ITEM, "a");
        Desk.due("the first one of the next", x.where(4), 64);
    }

    private static void tellsBlocksWithoutLines() {
        Desk.sentence("Promise 13", "-1 when it has no lines");
        DotBook x = new DotBook(10, 4);
        Desk.block(x, Desk.ITEM, "abc");
        x.clear();
        Desk.block(x, Desk.PARAGRAPH, "");
        Desk.block(x, Desk.HEADING, "   ");
        Desk.block(x, Desk.BREAK, "abc");
        for (int b = 0; b < 3; b++) {
            Desk.due("block " + b, x.where(b), -1);
        }
    }

    private static void refusesOtherBlocks() {
        Desk.sentence("Promise 13", "IndexOutOfBoundsException: there is no such block.");
        DotBook x = new DotBook(10, 4);
        Desk.due("no block", Desk.outcome(() -> x.where(0)), OUT);
        Desk.block(x, Desk.PARAGRAPH, "a");
        Desk.block(x, Desk.BREAK, "");
        int[] none = {LEAST, -1, 2, 11, 12, 13, GREATEST};
        for (int b : none) {
            Desk.due("block " + b, Desk.outcome(() -> x.where(b)), OUT);
        }
        x.clear();
        Desk.due("behind clear", Desk.outcome(() -> x.where(0)), OUT);
    }

    private static DotBook withHeadings() {
        DotBook x = new DotBook(10, 8);
        Desk.block(x, Desk.HEADING, "  ");
        Desk.block(x, Desk.PARAGRAPH, "a");
        Desk.block(x, Desk.HEADING, "b");
        Desk.block(x, Desk.HEADING, "");
        Desk.block(x, Desk.ITEM, "c");
        Desk.block(x, Desk.BREAK, "");
        Desk.block(x, Desk.HEADING, "d");
        return x;
    }

    private static void listsHeadingsWithLines() {
        Desk.sentence("Promise 14", "The i-th heading (from 0) that has lines: its block");
        DotBook x = withHeadings();
        Desk.due("the first", x.heading(0), 2);
        Desk.due("the second", x.heading(1), 6);
        DotBook full = new DotBook(10, 4);
        for (int b = 0; b < 12; b++) {
            Desk.block(full, Desk.HEADING, "h");
        }
        Desk.due("the first block", full.heading(0), 0);
        Desk.due("the twelfth block", full.heading(11), 11);
        Desk.due("no thirteenth", full.heading(12), -1);
    }

    private static void listsNoOtherHeadings() {
        Desk.sentence("Promise 14", "-1 when there is none");
        DotBook x = withHeadings();
        int[] none = {LEAST, -1, 2, 3, 12, GREATEST};
        for (int i : none) {
            Desk.due("heading " + i, x.heading(i), -1);
            Desk.due("heading " + i + " of a new object", new DotBook(10, 4).heading(i), -1);
        }
        x.clear();
        Desk.due("behind clear", x.heading(0), -1);
    }

    private static void clearsTheBook() {
        Desk.sentence("Promise 15", "Takes all blocks out of the book");
        DotBook x = new DotBook(10, 8);
        Desk.block(x, Desk.HEADING, "abcdef ".repeat(8));
        x.clear();
        Desk.due("size", Desk.outcome(() -> x.size(0)), OUT);
        Desk.due("cell", Desk.outcome(() -> x.cell(0, 0)), OUT);
        Desk.due("back", Desk.outcome(() -> x.back(0)), OUT);
        Desk.due("where", Desk.outcome(() -> x.where(0)), OUT);
        Desk.due("heading", x.heading(0), -1);
        Desk.due("pages", x.pages(), 1);
        Desk.due("page 1", Desk.page(x, 1, 10, 8), "          |".repeat(7) + "        #a|");
        Desk.due("page 2", Desk.outcome(() -> x.at(2, 0, 0)), OUT);
    }

    private static void clearsThePlaceBehindTheLastBlock() {
        Desk.sentence("Promise 15", "Takes all blocks out of the book", "what comes next is the first");
        for (int kind = Desk.PARAGRAPH; kind <= Desk.BREAK; kind++) {
            DotBook x = ofTwoPages();
            Desk.block(x, kind, "ab");
            x.clear();
            Desk.due("block, behind kind " + kind, Desk.block(x, Desk.HEADING, "h"), 1);
            Desk.due("where, behind kind " + kind, x.where(0), 32);
            Desk.due("pages, behind kind " + kind, x.pages(), 1);
        }
        DotBook y = new DotBook(10, 4);
        for (int b = 1; b <= 12; b++) {
            Desk.block(y, Desk.ITEM, "a");
        }
        y.clear();
        for (int b = 1; b <= 12; b++) {
            Desk.due("there is room for twelve again", Desk.block(y, Desk.ITEM, "a"), b);
        }
    }

    private static void clearsAnEmptyBook() {
        Desk.sentence("Promise 15", "Takes all blocks out of the book", "there is none");
        DotBook x = new DotBook(10, 4);
        x.clear();
        x.clear();
        Desk.due("pages", x.pages(), 1);
        Desk.due("a first block", Desk.block(x, Desk.ITEM, "a"), 1);
        Desk.due("where", x.where(0), 32);
    }

    private static void clearsWhatALongerBlockHad() {
        Desk.sentence("Promise 15", "Takes all blocks out of the book", "a shorter block has nothing of a longer one");
        DotBook x = Desk.withRules(10, 4, "a vw=1-12");
        Desk.block(x, Desk.ITEM, "abcdefghij klmnop");
        x.clear();
        Desk.block(x, Desk.ITEM, "a");
        Desk.due("cells", Desk.cells(x, 0), "1");
        Desk.due("heard", Desk.heard(x, 0), "a");
        Desk.due("page 1", Desk.page(x, 1, 10, 4), "a         |          |          |        #a|");
    }

    private static void clearLeavesTheRest() {
        Desk.sentence("Promise 15", "(rules, what is typed and the text that is heard stay)");
        DotBook x = new DotBook(12, 5);
        Desk.rules(x, true, "a ab=4;no");
        Desk.block(x, Desk.ITEM, "abc");
        x.back(0);
        Desk.typed(x, "abd");
        x.clear();
        Desk.due("what is heard", "" + x.heard(0) + x.heard(1) + x.heard(2) + x.heard(3), "abc ");
        Desk.due("wrong", x.wrong(), 1);
        Desk.due("what is typed", x.type('e'), 4);
        x.block(Desk.ITEM);
        Desk.due("rules", Desk.cells(x, 0), "8 25 17");
        Desk.due("how many rules", Desk.rules(x, false, "a cd=1"), 2);
        Desk.due("width and height", Desk.outcome(() -> x.at(1, 4, 11)), 1);
    }

    private static void answersTheLastOfItsCalls() {
        Desk.sentence("What it is", "An object is used for at most 512 calls after it has been made");
        DotBook x = new DotBook(10, 4);
        // Six blocks of 80 characters, with 486 calls, fill as much as a run can.
        for (int b = 1; b <= 6; b++) {
            Desk.due("block " + b, Desk.block(x, Desk.ITEM, "abcdef ".repeat(11) + "abc"), b);
        }
        for (int call = 486; call < CALLS - 4; call++) {
            Desk.due("call " + (call + 1), x.size(5), 80);
        }
        Desk.due("pages", x.pages(), 24);
        Desk.due("where", x.where(5), 21 * 32);
        Desk.due("at", x.at(24, 2, 4), 1);
        Desk.due("the last call", x.back(5), 80);
    }

    private static void fillsTheBookAgainAndAgain() {
        Desk.sentence("What it is", "at most 512 calls", "twelve blocks and clear, over and over");
        DotBook x = new DotBook(10, 4);
        for (int turn = 0; turn < 19; turn++) {
            for (int b = 1; b <= 12; b++) {
                x.type('h');
                Desk.due("block in turn " + turn, x.block(Desk.HEADING), b);
            }
            Desk.due("pages in turn " + turn, x.pages(), 12);
            x.clear();
        }
        Desk.due("pages at the end", x.pages(), 1);
    }

    private static void fillsLongBlocksAgainAndAgain() {
        Desk.sentence("What it is", "at most 512 calls", "a block of eighty characters and clear, over and over");
        DotBook x = new DotBook(10, 4);
        for (int turn = 0; turn < 5; turn++) {
            x.clear();
            Desk.block(x, Desk.HEADING, "abcdefghij ".repeat(7) + "klm");
            Desk.due("the first line in turn " + turn, x.at(1, 0, 9), 26);
            Desk.due("the last line in turn " + turn, Desk.line(x, 3, 1, 10), "   klm    ");
        }
    }

    private static void readsBackAgainAndAgain() {
        Desk.sentence("What it is", "at most 512 calls", "back, over and over");
        DotBook x = Desk.withRules(10, 4, "a uvwxyz=1");
        Desk.block(x, Desk.PARAGRAPH, "a".repeat(80));
        for (int i = 0; i < 410; i++) {
            Desk.due("how many", x.back(0), 480);
        }
        Desk.due("the last", x.heard(479), 'z');
    }
}
