/** Promises 2 (type) and 3 (wipe). */
public final class TypingTest {
    public static void main(String[] args) {
        Desk.run(
            TypingTest::countsCharacters,
            TypingTest::refusesOtherCodes,
            TypingTest::refusesMoreThanEighty,
            TypingTest::wipes);
    }

    private static void countsCharacters() {
        DotBook x = new DotBook(20, 10);
        Desk.due("first", x.type('a'), 1);
        Desk.due("space", x.type(' '), 2);
        Desk.due("greatest code", x.type('~'), 3);
        x.wipe();
        Desk.typed(x, "ab");
        x.block(Desk.PARAGRAPH);
        Desk.due("behind a block", x.type('a'), 1);
    }

    private static void refusesOtherCodes() {
        DotBook x = new DotBook(20, 10);
        char[] others = {0, 10, 31, 127, 128, 255, 256, 32 + 256, 65535};
        for (char c : others) {
            Desk.due("type " + (int) c, Desk.outcome(() -> x.type(c)), "IllegalArgumentException");
        }
        Desk.due("none of them is typed", x.type('a'), 1);
        Desk.due("type 32", x.type((char) 32), 2);
        Desk.due("type 126", x.type((char) 126), 3);
    }

    private static void refusesMoreThanEighty() {
        DotBook x = new DotBook(20, 10);
        for (int i = 1; i <= 80; i++) {
            Desk.due("type", x.type('a'), i);
        }
        Desk.due("one more", Desk.outcome(() -> x.type('a')), "IllegalStateException");
        Desk.due("one more, wrong", Desk.outcome(() -> x.type((char) 9)), "IllegalArgumentException");
        x.block(Desk.PARAGRAPH);
        Desk.due("eighty cells", x.size(0), 80);
    }

    private static void wipes() {
        DotBook x = new DotBook(20, 10);
        x.wipe();
        Desk.due("wipe of nothing", Desk.countTyped(x), 0);
        Desk.typed(x, "abc");
        x.wipe();
        Desk.due("after wipe", x.type('d'), 1);
        x.block(Desk.PARAGRAPH);
        Desk.due("the later character", Desk.cells(x, 0), "25");
    }
}
