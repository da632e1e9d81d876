/** Promises 4 (rules) and 5 (wrong). */
public final class RulesTest {
    private static final String REFUSED = "IllegalArgumentException";

    public static void main(String[] args) {
        Desk.run(
            RulesTest::takesRules,
            RulesTest::knowsWrongTexts,
            RulesTest::countsEarlierRules,
            RulesTest::keepsAllOrNothing,
            RulesTest::leavesOutWrongOnes,
            RulesTest::stopsAtTwentyFour);
    }

    private static void takesRules() {
        DotBook x = new DotBook(20, 10);
        Desk.due("wrong, before any call", x.wrong(), -1);
        Desk.due("one", Desk.rules(x, false, "w ab=1"), "1");
        Desk.due("wrong", x.wrong(), -1);
        Desk.due("nothing is typed then", Desk.countTyped(x), 0);
        Desk.due("all kinds", Desk.rules(x, false, "b ab=1;m ab=1;e ab=1;a ab=1"), "5");
        Desk.due("six letters, three cells", Desk.rules(x, false, "a abcdef=123456-1-6"), "6");
        Desk.due("lenient", Desk.rules(x, true, "a zz=1"), "7");
        Desk.due("wrong, lenient", x.wrong(), -1);
        Desk.due("nothing is typed then, lenient", Desk.countTyped(x), 0);
    }

    private static void knowsWrongTexts() {
        String[] texts = {
            "", " ", "a", "a ", "a ab", "a ab=", "a =1", "a a=1", "a abcdefg=1", "x ab=1", "W ab=1", "A ab=1",
            "aab=1", "a  ab=1", " a ab=1", "a ab=1 ", "a ab =1", "a ab= 1", "a aB=1", "a Ab=1", "a a1=1", "a a-b=1",
            "a ab=0", "a ab=7", "a ab=11", "a ab=21", "a ab=132", "a ab=1-", "a ab=-1", "a ab=1--2", "a ab=-",
            "a ab=1-2-3-4", "a ab=1-2-3-", "a ab=a", "a ab==1", "a ab=1=2", "a ab=1,2", "a ab:1", "ab=1", "0 ab=1",
            "a ab=1-21", "a ab=1-7", "a ab=123456-", "a ab=1234566", "a ab=65",
        };
        for (String text : texts) {
            DotBook x = new DotBook(20, 10);
            Desk.due("rules of [" + text + "]", Desk.rules(x, false, text), REFUSED);
            Desk.due("wrong", x.wrong(), 0);
            Desk.due("typed stays", Desk.countTyped(x), text.length());
            Desk.due("lenient rules of [" + text + "]", Desk.rules(x, true, text), "0");
            Desk.due("wrong, lenient", x.wrong(), 0);
            Desk.due("nothing is typed, lenient", Desk.countTyped(x), 0);
        }
    }

    private static void countsEarlierRules() {
        DotBook x = new DotBook(20, 10);
        Desk.due("same in one call", Desk.rules(x, false, "a ab=1;b ab=1;a ab=2"), REFUSED);
        Desk.due("the later one is wrong", x.wrong(), 2);
        x.wipe();
        Desk.due("the kinds differ", Desk.rules(x, false, "a ab=1;b ab=1"), "2");
        Desk.due("same in a later call", Desk.rules(x, false, "a abc=1;b ab=3"), REFUSED);
        Desk.due("the second is wrong", x.wrong(), 1);
        x.wipe();
        Desk.due("part of other letters", Desk.rules(x, false, "a abc=1;a bc=1"), "4");
        Desk.due("other first letter, other last letter", Desk.rules(x, false, "a bbc=1;a abb=1"), "6");
        Desk.due("behind a call without wrong ones", x.wrong(), -1);
        x = new DotBook(20, 10);
        Desk.due("a wrong one does not count", Desk.rules(x, true, "a ab=7;a ab=1;a ab=2"), "1");
        Desk.due("the first wrong one", x.wrong(), 0);
        x = new DotBook(20, 10);
        Desk.due("nor do its letters", Desk.rules(x, true, "a abc=7;a ab=1;a ab=2"), "1");
        Desk.due("the first wrong one", x.wrong(), 0);
    }

    private static void keepsAllOrNothing() {
        DotBook x = new DotBook(20, 10);
        Desk.due("right, wrong, right", Desk.rules(x, false, "a ab=1;;a cd=1"), REFUSED);
        Desk.due("the empty one", x.wrong(), 1);
        x.wipe();
        Desk.due("; behind the last", Desk.rules(x, false, "a ab=1;"), REFUSED);
        Desk.due("the empty last one", x.wrong(), 1);
        x.wipe();
        Desk.due("; alone", Desk.rules(x, false, ";"), REFUSED);
        Desk.due("the first of two", x.wrong(), 0);
        x.wipe();
        Desk.due("nothing typed", Desk.rules(x, false, ""), REFUSED);
        Desk.due("no rule was taken", Desk.rules(x, false, "a ab=1;a cd=1"), "2");
        Desk.block(x, Desk.PARAGRAPH, "abcd");
        Desk.due("the rules are in use", Desk.cells(x, 0), "1 1");
    }

    private static void leavesOutWrongOnes() {
        DotBook x = new DotBook(20, 10);
        Desk.due("lenient", Desk.rules(x, true, "a ab=12;no;a cd=4;;a ef=0;a gh=5"), "3");
        Desk.due("the first wrong one", x.wrong(), 1);
        Desk.block(x, Desk.PARAGRAPH, "abcdefgh");
        Desk.due("their cells", Desk.cells(x, 0), "3 8 17 11 16");
        Desk.due("nothing typed, lenient", Desk.rules(x, true, ""), "3");
        Desk.due("the empty one is wrong", x.wrong(), 0);
        x.clear();
        x.wipe();
        Desk.due("wrong stays", x.wrong(), 0);
    }

    private static void stopsAtTwentyFour() {
        DotBook x = new DotBook(20, 10);
        for (int i = 0; i < 23; i++) {
            Desk.due("rule " + i, Desk.rules(x, false, "a a" + (char) ('a' + i) + "=1"), i + 1);
        }
        Desk.due("two where one has room", Desk.rules(x, false, "a xx=1;a yy=1"), REFUSED);
        Desk.due("the second is wrong", x.wrong(), 1);
        x.wipe();
        Desk.due("lenient: one is taken", Desk.rules(x, true, "a xx=1;a yy=1"), "24");
        Desk.due("the second is wrong, lenient", x.wrong(), 1);
        Desk.due("one more", Desk.rules(x, false, "a zz=1"), REFUSED);
        Desk.due("it is wrong", x.wrong(), 0);
        x.wipe();
        Desk.due("one more, lenient", Desk.rules(x, true, "a zz=1"), "24");
        Desk.block(x, Desk.PARAGRAPH, "xx yy zz");
        Desk.due("only the first was taken", Desk.cells(x, 0), "1 0 61 61 0 53 53");
    }
}
