/** The edges of promises 1 (a new object), 2 (type) and 3 (wipe): each sentence that names one has a test of its own. */
public final class TypingEdgesTest {
    private static final String REFUSED = "IllegalArgumentException";
    private static final String FULL = "IllegalStateException";
    private static final String OUT = "IndexOutOfBoundsException";
    private static final int LEAST = Integer.MIN_VALUE;
    private static final int GREATEST = Integer.MAX_VALUE;

    public static void main(String[] args) {
        Desk.run(
            TypingEdgesTest::hasNoRules,
            TypingEdgesTest::hasNothingTyped,
            TypingEdgesTest::isEmptyBook,
            TypingEdgesTest::isTenWideAtLeast,
            TypingEdgesTest::isFortyWideAtMost,
            TypingEdgesTest::isFourHighAtLeast,
            TypingEdgesTest::isTwentyHighAtMost,
            TypingEdgesTest::answersTheCount,
            TypingEdgesTest::refusesOtherCodes,
            TypingEdgesTest::leavesAloneWhatIsTyped,
            TypingEdgesTest::refusesTheEightyFirst,
            TypingEdgesTest::looksAtTheCodeFirst,
            TypingEdgesTest::wipes,
            TypingEdgesTest::wipesNothingElse);
    }

    private static void hasNoRules() {
        Desk.sentence("Promise 1", "No rules");
        DotBook x = new DotBook(10, 4);
        Desk.due("an empty text, left out", x.rules(true), 0);
        Desk.due("a first rule", Desk.rules(x, false, "a ab=1"), 1);
    }

    private static void hasNothingTyped() {
        Desk.sentence("Promise 1", "nothing typed");
        Desk.due("first character", new DotBook(10, 4).type('a'), 1);
        DotBook x = new DotBook(10, 4);
        x.block(Desk.PARAGRAPH);
        Desk.due("size of a block at once", x.size(0), 0);
    }

    private static void isEmptyBook() {
        Desk.sentence("Promise 1", "an empty book of one page");
        DotBook x = new DotBook(10, 4);
        Desk.due("pages", x.pages(), 1);
        Desk.due("page 1", Desk.page(x, 1, 10, 4), "          |".repeat(3) + "        #a|");
        Desk.due("page 0", Desk.outcome(() -> x.at(0, 0, 0)), OUT);
        Desk.due("page 2", Desk.outcome(() -> x.at(2, 0, 0)), OUT);
        Desk.due("size", Desk.outcome(() -> x.size(0)), OUT);
        Desk.due("cell", Desk.outcome(() -> x.cell(0, 0)), OUT);
        Desk.due("back", Desk.outcome(() -> x.back(0)), OUT);
        Desk.due("where", Desk.outcome(() -> x.where(0)), OUT);
        Desk.due("heading", x.heading(0), -1);
        Desk.due("first block", x.block(Desk.PARAGRAPH), 1);
    }

    /** The width is seen by the places that there are, by the page's number, and by where a piece is cut. */
    private static void widthIs(int asked, int width) {
        DotBook x = new DotBook(asked, 5);
        String what = "asked for " + asked + ": ";
        Desk.due(what + "last place", Desk.outcome(() -> x.at(1, 0, width - 1)), 0);
        Desk.due(what + "place behind it", Desk.outcome(() -> x.at(1, 0, width)), OUT);
        Desk.due(what + "place of the number", Desk.outcome(() -> x.at(1, 4, width - 1)), 1);
        Desk.block(x, Desk.ITEM, "b".repeat(width) + "c");
        Desk.due(what + "end of a full line", Desk.outcome(() -> x.at(1, 0, width - 1)), 3);
        Desk.due(what + "what is cut off", x.at(1, 1, 4), 9);
    }

    private static void isTenWideAtLeast() {
        Desk.sentence("Promise 1", "WIDTH is width, but at least 10");
        widthIs(LEAST, 10);
        widthIs(-1, 10);
        widthIs(0, 10);
        widthIs(9, 10);
        widthIs(10, 10);
        widthIs(11, 11);
    }

    private static void isFortyWideAtMost() {
        Desk.sentence("Promise 1", "and at most 40");
        widthIs(39, 39);
        widthIs(40, 40);
        widthIs(41, 40);
        widthIs(GREATEST, 40);
    }

    /** The height is seen by the lines that there are, by the number's line, and by when a page is full. */
    private static void heightIs(int asked, int height) {
        DotBook x = new DotBook(10, asked);
        String what = "asked for " + asked + ": ";
        Desk.due(what + "last line", Desk.outcome(() -> x.at(1, height - 1, 9)), 1);
        Desk.due(what + "line behind it", Desk.outcome(() -> x.at(1, height, 0)), OUT);
        int blocks = Desk.putLines(x, height - 1);
        Desk.due(what + "a full page", x.pages(), 1);
        Desk.block(x, Desk.ITEM, "a");
        Desk.due(what + "a line more", x.where(blocks), 64);
    }

    private static void isFourHighAtLeast() {
        Desk.sentence("Promise 1", "HEIGHT is height, but at least 4");
        heightIs(LEAST, 4);
        heightIs(-1, 4);
        heightIs(0, 4);
        heightIs(3, 4);
        heightIs(4, 4);
        heightIs(5, 5);
    }

    private static void isTwentyHighAtMost() {
        Desk.sentence("Promise 1", "and at most 20");
        heightIs(19, 19);
        heightIs(20, 20);
        heightIs(21, 20);
        heightIs(GREATEST, 20);
    }

    private static void answersTheCount() {
        Desk.sentence("Promise 2", "Puts a character behind what is typed: how many there are.");
        DotBook x = new DotBook(10, 4);
        for (int i = 1; i <= 80; i++) {
            Desk.due("character " + i, x.type(i < 80 ? 'a' : 'b'), i);
        }
        x.block(Desk.PARAGRAPH);
        Desk.due("the first", x.cell(0, 0), 1);
        Desk.due("the last is behind all others", x.cell(0, 79), 3 + 64 * 79);
    }

    private static void refusesOtherCodes() {
        Desk.sentence("Promise 2", "IllegalArgumentException: its code is not 32 .. 126");
        DotBook x = new DotBook(10, 4);
        int[] others = {0, 1, 9, 10, 13, 31, 127, 128, 160, 255, 256, 256 + 32, 256 + 97, 32767, 32768, 65535};
        for (int code : others) {
            Desk.due("code " + code, Desk.outcome(() -> x.type((char) code)), REFUSED);
        }
        for (int code = 32; code <= 126; code++) {
            x.wipe();
            Desk.due("code " + code, x.type((char) code), 1);
        }
    }

    private static void leavesAloneWhatIsTyped() {
        Desk.sentence("Promise 2", "IllegalArgumentException: its code is not 32 .. 126", "what is typed stays");
        DotBook x = Desk.typed(new DotBook(10, 4), "ab");
        Desk.due("refused", Desk.outcome(() -> x.type((char) 127)), REFUSED);
        Desk.due("the next", x.type('c'), 3);
        x.block(Desk.PARAGRAPH);
        Desk.due("what was typed", Desk.cells(x, 0), "1 3 9");
    }

    private static void refusesTheEightyFirst() {
        Desk.sentence("Promise 2", "IllegalStateException: there are 80");
        DotBook x = Desk.typed(new DotBook(10, 4), "a".repeat(79));
        Desk.due("the 80th", x.type('b'), 80);
        Desk.due("the 81st", Desk.outcome(() -> x.type('c')), FULL);
        Desk.due("again", Desk.outcome(() -> x.type('c')), FULL);
        x.block(Desk.PARAGRAPH);
        Desk.due("how many there were", x.size(0), 80);
        Desk.due("the last of them", x.cell(0, 79) % 64, 3);
        Desk.due("there is room again", x.type('c'), 1);
    }

    private static void looksAtTheCodeFirst() {
        Desk.sentence("Promise 2", "IllegalArgumentException: its code is not 32 .. 126", "named before IllegalStateException");
        DotBook x = Desk.typed(new DotBook(10, 4), "a".repeat(80));
        Desk.due("both are due", Desk.outcome(() -> x.type((char) 31)), REFUSED);
        Desk.due("one is due", Desk.outcome(() -> x.type((char) 32)), FULL);
    }

    private static void wipes() {
        Desk.sentence("Promise 3", "Nothing is typed.");
        DotBook x = new DotBook(10, 4);
        x.wipe();
        Desk.due("wipe of nothing", x.type('a'), 1);
        x.wipe();
        x.wipe();
        Desk.due("wipe of one, twice", x.type('a'), 1);
        Desk.typed(x, "a".repeat(79)).wipe();
        Desk.due("wipe of eighty", x.type('b'), 1);
        x.block(Desk.PARAGRAPH);
        Desk.due("the cell of what was typed later", Desk.cells(x, 0), "3");
        Desk.rules(x, false, "no rule");
        x.wipe();
        Desk.due("wipe of what rules() refused", x.type('a'), 1);
    }

    private static void wipesNothingElse() {
        Desk.sentence("Promise 3", "Nothing is typed.", "all else stays");
        DotBook x = new DotBook(10, 4);
        Desk.rules(x, true, "a ab=1-2;no");
        Desk.block(x, Desk.HEADING, "ab");
        x.back(0);
        Desk.typed(x, "cd").wipe();
        Desk.due("wrong", x.wrong(), 1);
        Desk.due("heard", "" + x.heard(0) + x.heard(1), "ab");
        Desk.due("cells", Desk.cells(x, 0), "1 2");
        Desk.due("heading", x.heading(0), 0);
        Desk.due("rules", Desk.rules(x, false, "a cd=1"), 2);
    }
}
