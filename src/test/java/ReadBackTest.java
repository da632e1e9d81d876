/** Promises 9 (back) and 10 (heard). */
public final class ReadBackTest {
    private static final String OUT = "IndexOutOfBoundsException";

    public static void main(String[] args) {
        Desk.run(
            ReadBackTest::readsPlainTexts,
            ReadBackTest::readsSigns,
            ReadBackTest::readsRulesWhereTheyApply,
            ReadBackTest::prefersRules,
            ReadBackTest::readsUnknownCells,
            ReadBackTest::readsRulesWithSigns,
            ReadBackTest::keepsWhatIsHeard,
            ReadBackTest::readsNothingOfAnEarlierBlock,
            ReadBackTest::hearsTheLongestText);
    }

    /** What is heard when a text is translated with rules, and then read back with those and later ones. */
    private static void hears(String rules, String laterRules, String text, String heard) {
        DotBook x = rules.isEmpty() ? new DotBook(20, 10) : Desk.withRules(20, 10, rules);
        Desk.block(x, Desk.PARAGRAPH, text);
        if (!laterRules.isEmpty()) {
            Desk.rules(x, false, laterRules);
        }
        Desk.due("heard of [" + text + "] by [" + rules + "] and [" + laterRules + "]", Desk.heard(x, 0), heard);
    }

    private static void readsPlainTexts() {
        String[] texts = {
            "", " ", "   ", "abcdefghijklmnopqrstuvwxyz", ".,;:?!-'", "1234567890", "  a  b  ", "A", "Ab", "aB", "ABc",
            "AB CD", "AB cd", "Z", "AZ", "Zz", "1a", "1k", "12 ab", "a1", "1A", "1.2", "10 2b 3z? AbC D", "0123456789",
        };
        for (String text : texts) {
            hears("", "", text, text);
        }
    }

    private static void readsSigns() {
        // Two signs hold for all letters of the piece, behind marks and numbers, too.
        hears("", "", "AB-cd ef", "AB-CD ef");
        hears("", "", "AB1k", "AB1K");
        hears("", "", "a-BC-d e", "a-BC-D e");
        hears("", "", "1ab", "1ab");
        hears("", "", "12kb", "12kb");
    }

    private static void readsRulesWhereTheyApply() {
        hears("", "w xy=1", "a", "xy");
        hears("", "w xy=1", "ab ba a.", "ab ba a.");
        hears("", "w xy=1", "a a", "xy xy");
        hears("", "b xy=1", "a ab ba bab aab", "a xyb ba bab xyab");
        hears("", "m xy=1", "a ab ba bab baab", "a ab ba bxyb bxyxyb");
        hears("", "e xy=1", "a ab ba bab baa", "a ab bxy bab baxy");
        hears("", "a xy=1", "a ab ba bab", "xy xyb bxy bxyb");
        // CAPITAL signs at the beginning of a piece are not counted; other signs are.
        hears("", "w xy=1", "A", "Xy");
        hears("", "b xy=1", "Ab AB", "Xyb XYB");
        hears("", "e xy=1", "A bA", "A bXy");
        hears("", "w xy=1-12", "ab AB Ab", "xy XY Xy");
        hears("", "b xy=1;e vw=1", "1ab 1a", "1ab 1vw");
        hears("", "b xy=1;m vw=1", "-ab", "-vwb");
        hears("", "w xy=1", "1a", "1a");
    }

    private static void prefersRules() {
        hears("", "a xy=1;a vw=1-12", "ab", "vw");
        hears("", "a vw=1-12;a xy=1", "abac", "vwxyc");
        hears("", "a xy=1;w vw=1", "a", "vw");
        hears("", "a xy=1;b vw=1;m tu=1;e rs=1", "aaa", "vwturs");
        hears("", "a xy=1;a vw=1", "ab", "xyb");
        hears("", "a vw=1;a xy=1", "ab", "vwb");
        hears("", "a xyzxyz=1;a vw=1-12", "ab", "vw");
        hears("", "a xy=12;a vw=1-12-14", "ab", "axy");
    }

    private static void readsUnknownCells() {
        DotBook x = Desk.withRules(20, 10, "w ab=4;w cd=45-123456");
        Desk.block(x, Desk.PARAGRAPH, "ab cd");
        Desk.due("with the rules", Desk.heard(x, 0), "ab cd");
        Desk.block(x, Desk.PARAGRAPH, "ab. cd.");
        Desk.due("where they do not apply", Desk.heard(x, 1), "#. ##.");
        x = Desk.withRules(20, 10, "b ab=4;b cd=45-123456");
        Desk.block(x, Desk.PARAGRAPH, ".abx .cdx -ABx");
        Desk.due("cells without a meaning", Desk.cells(x, 0), "50 8 45 0 50 24 63 45 0 36 32 1 32 3 45");
        Desk.due("are heard as #", Desk.heard(x, 0), ".#x .##x -ABx");
    }

    private static void readsRulesWithSigns() {
        // A rule whose first cell is a sign is never read, a sign behind the first cell is.
        hears("a ab=6", "", "abc", "C");
        hears("a ab=6", "", "ab", "");
        hears("a ab=6", "", "ab c", " c");
        hears("a ab=6", "", "ababcd", "CD");
        hears("a ab=6", "", "ab-cd", "-Cd");
        hears("a ab=56", "", "cabd", "cd");
        hears("a ab=3456", "", "abaj", "10");
        hears("a ab=3456", "", "abak", "1k");
        hears("a ab=3456", "", "ab1", "1");
        hears("a ab=1-6", "", "abc", "abc");
        hears("a ab=1-6", "", "abCde", "abCde");
        hears("a ab=6;a xy=56", "", "abxyabcd", "Cd");
        hears("a ab=6", "", "ab1cd", "1Cd");
        hears("a ab=4;a xy=6", "e ab=4", "xyab", "Ab");
        hears("", "a xy=6-1", "Ab", "Ab");
    }

    private static void keepsWhatIsHeard() {
        DotBook x = new DotBook(20, 10);
        Desk.due("at first", x.heard(0), ' ');
        Desk.due("no block", Desk.outcome(() -> x.back(0)), OUT);
        Desk.block(x, Desk.PARAGRAPH, "abc");
        Desk.block(x, Desk.PARAGRAPH, "d");
        Desk.block(x, Desk.BREAK, "");
        Desk.due("before a call", x.heard(0), ' ');
        Desk.due("three", x.back(0), 3);
        int[] noBlocks = {-1, 3, 12, Integer.MIN_VALUE, Integer.MAX_VALUE};
        for (int b : noBlocks) {
            Desk.due("back of " + b, Desk.outcome(() -> x.back(b)), OUT);
        }
        Desk.due("first", x.heard(0), 'a');
        Desk.due("last", x.heard(2), 'c');
        int[] nothing = {-1, 3, 1199, 1200, Integer.MIN_VALUE, Integer.MAX_VALUE};
        for (int i : nothing) {
            Desk.due("heard " + i, x.heard(i), ' ');
        }
        x.clear();
        x.wipe();
        Desk.due("stays behind clear", x.heard(1), 'b');
        Desk.block(x, Desk.PARAGRAPH, "d");
        Desk.due("stays behind block", x.heard(1), 'b');
        Desk.due("one", x.back(0), 1);
        Desk.due("the shorter text", x.heard(0), 'd');
        Desk.due("nothing of the longer one", x.heard(1), ' ');
        Desk.block(x, Desk.BREAK, "");
        Desk.due("a break", x.back(1), 0);
        Desk.due("is heard as nothing", x.heard(0), ' ');
    }

    private static void readsNothingOfAnEarlierBlock() {
        DotBook x = Desk.withRules(20, 10, "a vw=1-12");
        Desk.block(x, Desk.PARAGRAPH, "ab");
        x.clear();
        Desk.block(x, Desk.PARAGRAPH, "a");
        Desk.due("a cell behind the end", Desk.heard(x, 0), "a");
        x = Desk.withRules(20, 10, "w xy=4;e vw=1-12");
        Desk.block(x, Desk.PARAGRAPH, "aaaaaaaab");
        x.clear();
        Desk.block(x, Desk.PARAGRAPH, "xy");
        Desk.due("a whole piece", Desk.heard(x, 0), "xy");
        x.clear();
        Desk.block(x, Desk.PARAGRAPH, "bcvw");
        Desk.due("the end of a piece", Desk.heard(x, 0), "bcvw");
    }

    private static void hearsTheLongestText() {
        DotBook x = Desk.withRules(20, 10, "a ab=4-4-4");
        Desk.block(x, Desk.PARAGRAPH, "ab".repeat(40));
        Desk.rules(x, false, "b zzzzzz=4-4-4;m zzzzzz=4-4-4;e zzzzzz=4-4-4");
        Desk.due("rules of three cells", x.back(0), 40 * 6);
        x = Desk.withRules(20, 10, "b ab=4-4-4", "a zzzzzz=4");
        Desk.block(x, Desk.PARAGRAPH, "abx'".repeat(20));
        Desk.due("the cells", x.size(0), 20 * 5);
        Desk.due("rules of one cell", Desk.heard(x, 0), "abx'" + ("z".repeat(18) + "x'").repeat(19));
    }
}
