/** Promises 6 (block), 7 (size) and 8 (cell). */
public final class TranslateTest {
    private static final String REFUSED = "IllegalArgumentException";
    private static final String OUT = "IndexOutOfBoundsException";

    public static void main(String[] args) {
        Desk.run(
            TranslateTest::knowsEveryCharacter,
            TranslateTest::writesNumbers,
            TranslateTest::writesCapitals,
            TranslateTest::usesRulesWhereTheyApply,
            TranslateTest::prefersRules,
            TranslateTest::mindsCapitals,
            TranslateTest::tellsOrigins,
            TranslateTest::takesBlocks,
            TranslateTest::refusesKindsAndCharacters,
            TranslateTest::refusesMoreThanTwelve,
            TranslateTest::refusesPlaces,
            TranslateTest::holdsTheDensestText);
    }

    /** The cells that a text gives, with rules. */
    private static void gives(String rules, String text, String cells) {
        DotBook x = rules.isEmpty() ? new DotBook(20, 10) : Desk.withRules(20, 10, rules);
        Desk.block(x, Desk.PARAGRAPH, text);
        Desk.due("cells of [" + text + "] by [" + rules + "]", Desk.cells(x, 0), cells);
    }

    private static void knowsEveryCharacter() {
        gives("", "abcdefghijklmnopqrstuvwxyz",
            "1 3 9 25 17 11 27 19 10 26 5 7 13 29 21 15 31 23 14 30 37 39 58 45 61 53");
        gives("", ".,;:?!-'", "50 2 6 18 38 22 36 4");
        gives("", "1234567890", "60 1 3 9 25 17 11 27 19 10 26");
        gives("", "  a ", "0 0 1 0");
        gives("", "", "");
    }

    private static void writesNumbers() {
        gives("", "12", "60 1 3");
        gives("", "1 2", "60 1 0 60 3");
        gives("", "1.2", "60 1 50 60 3");
        gives("", "1a", "60 1 48 1");
        gives("", "1j", "60 1 48 26");
        gives("", "1k", "60 1 5");
        gives("", "1A", "60 1 32 1");
        gives("", "1AB", "60 1 32 32 1 3");
        gives("", "1 a", "60 1 0 1");
        gives("", "a1", "1 60 1");
        gives("", "1-a", "60 1 36 1");
        gives("a ab=6", "1ab", "60 1 48 32");
    }

    private static void writesCapitals() {
        gives("", "A", "32 1");
        gives("", "AB", "32 32 1 3");
        gives("", "Ab", "32 1 3");
        gives("", "aB", "1 32 3");
        gives("", "ABc", "32 1 32 3 9");
        gives("", "A B", "32 1 0 32 3");
        gives("", "A1B", "32 1 60 1 32 3");
        gives("", "Z", "32 53");
        gives("", "AZ", "32 32 1 53");
        gives("", "Za", "32 53 1");
        gives("", "AB-CD", "32 32 1 3 36 32 32 9 25");
    }

    private static void usesRulesWhereTheyApply() {
        gives("w ab=4", "ab", "8");
        gives("w ab=4", "ab,ab1ab", "8 2 8 60 1 48 8");
        gives("w ab=4", "abc", "1 3 9");
        gives("w ab=4", "cab", "9 1 3");
        gives("b ab=4", "ab", "1 3");
        gives("b ab=4", "abc", "8 9");
        gives("b ab=4", "cabab", "9 1 3 1 3");
        gives("b ab=4", "abab", "8 1 3");
        gives("m ab=4", "ab", "1 3");
        gives("m ab=4", "abc", "1 3 9");
        gives("m ab=4", "cab", "9 1 3");
        gives("m ab=4", "cabc", "9 8 9");
        gives("e ab=4", "ab", "1 3");
        gives("e ab=4", "abc", "1 3 9");
        gives("e ab=4", "cab", "9 8");
        gives("e ab=4", "cab.", "9 8 50");
        gives("e ab=4", "cab1", "9 8 60 1");
        gives("e ab=4", "cabc", "9 1 3 9");
        gives("a ab=4", "ab cab abc cabc", "8 0 9 8 0 8 9 0 9 8 9");
        gives("a ab=4-5-6", "ab", "8 16 32");
        gives("a aa=4", "aaaaa", "8 8 1");
        gives("a ab=4", "bb ac", "3 3 0 1 9");
    }

    private static void prefersRules() {
        gives("a ab=4;a abc=5", "abcab", "16 8");
        gives("a abc=5;a ab=4", "abcab", "16 8");
        gives("a ab=4;w ab=5", "ab", "16");
        gives("w ab=5;a ab=4", "ab", "16");
        gives("a ab=4;b ab=5;m ab=6;e ab=56", "ababab", "16 32 48");
        gives("w ab=4;a abc=5", "abc", "16");
        gives("a abc=5;b ab=4", "abcd", "16 25");
        gives("a bc=5;a ab=4", "abc", "8 9");
    }

    private static void mindsCapitals() {
        gives("a ab=4", "Ab", "32 8");
        gives("a ab=4", "aB", "1 32 3");
        gives("a ab=4", "AB", "32 32 8");
        gives("a ab=4", "ABc", "32 1 32 3 9");
        gives("a ab=4", "cAb", "9 32 8");
        gives("a ab=4", "aAb", "1 32 8");
        gives("a ab=4;a abc=5", "abC", "8 32 9");
        gives("a ab=4;a abc=5", "ABC", "32 32 16");
        gives("w ab=4", "Ab AB aB", "32 8 0 32 32 8 0 1 32 3");
        gives("b ab=4;e cd=5", "ABCD", "32 32 8 16");
        gives("b ab=4;e cd=5", "AbCd", "32 8 32 16");
    }

    private static void tellsOrigins() {
        DotBook x = Desk.withRules(20, 10, "a bc=4-5");
        Desk.block(x, Desk.PARAGRAPH, "aBcd 12a AB xBC");
        Desk.due("cells", Desk.cells(x, 0), "1 32 8 16 25 0 60 1 3 48 1 0 32 32 1 3 0 45 32 3 32 9");
        Desk.due("origins", Desk.origins(x, 0), "0 1 1 1 3 4 5 5 6 7 7 8 9 9 9 10 11 12 13 13 14 14");
        Desk.due("both", x.cell(0, 3), 16 + 64);
    }

    private static void takesBlocks() {
        DotBook x = new DotBook(20, 10);
        Desk.due("first", Desk.block(x, Desk.PARAGRAPH, "ab"), "1");
        Desk.due("nothing is typed then", Desk.countTyped(x), 0);
        Desk.due("second", Desk.block(x, Desk.ITEM, "c"), "2");
        Desk.due("empty", Desk.block(x, Desk.HEADING, ""), "3");
        Desk.due("break", Desk.block(x, Desk.BREAK, "abc"), "4");
        Desk.due("nothing is typed behind a break", Desk.countTyped(x), 0);
        Desk.due("fifth", Desk.block(x, Desk.PARAGRAPH, "A1"), "5");
        int[] sizes = {2, 1, 0, 0, 4};
        for (int b = 0; b < sizes.length; b++) {
            Desk.due("size " + b, x.size(b), sizes[b]);
        }
        Desk.due("cells of the last", Desk.cells(x, 4), "32 1 60 1");
        Desk.rules(x, false, "a ab=6");
        Desk.due("later rules leave blocks alone", Desk.cells(x, 0), "1 3");
    }

    private static void refusesKindsAndCharacters() {
        DotBook y = new DotBook(20, 10);
        int[] noKinds = {-1, 4, 5, Integer.MIN_VALUE, Integer.MAX_VALUE};
        for (int kind : noKinds) {
            Desk.due("kind " + kind, Desk.block(y, kind, "a"), REFUSED);
            Desk.due("typed stays", Desk.countTyped(y), 1);
        }
        String others = "\"#$%&()*+/<=>@[\\]^_`{|}~";
        for (int kind = Desk.PARAGRAPH; kind <= Desk.BREAK; kind++) {
            DotBook x = new DotBook(20, 10);
            for (char c : others.toCharArray()) {
                Desk.due("block " + kind + " of " + c, Desk.block(x, kind, "ab" + c), REFUSED);
                Desk.due("typed stays", Desk.countTyped(x), 3);
            }
        }
    }

    private static void refusesMoreThanTwelve() {
        DotBook x = new DotBook(20, 10);
        for (int b = 1; b <= 12; b++) {
            Desk.due("block", Desk.block(x, b % 4, "a"), b);
        }
        Desk.due("one more", Desk.block(x, Desk.PARAGRAPH, "ab"), "IllegalStateException");
        Desk.due("typed stays", Desk.countTyped(x), 2);
        Desk.due("one more break", Desk.block(x, Desk.BREAK, ""), "IllegalStateException");
        Desk.due("one more of no kind", Desk.block(x, 4, ""), REFUSED);
        Desk.due("one more that is wrong", Desk.block(x, Desk.PARAGRAPH, "="), REFUSED);
    }

    private static void refusesPlaces() {
        DotBook x = new DotBook(20, 10);
        Desk.due("size, no block", Desk.outcome(() -> x.size(0)), OUT);
        Desk.due("cell, no block", Desk.outcome(() -> x.cell(0, 0)), OUT);
        Desk.block(x, Desk.PARAGRAPH, "ab");
        Desk.block(x, Desk.BREAK, "");
        int[] noBlocks = {-1, 2, 11, 12, 13, Integer.MIN_VALUE, Integer.MAX_VALUE};
        for (int b : noBlocks) {
            Desk.due("size of " + b, Desk.outcome(() -> x.size(b)), OUT);
            Desk.due("cell of " + b, Desk.outcome(() -> x.cell(b, 0)), OUT);
        }
        Desk.due("last cell", x.cell(0, 1), 3 + 64);
        int[] noCells = {-1, 2, 199, 200, Integer.MIN_VALUE, Integer.MAX_VALUE};
        for (int i : noCells) {
            Desk.due("cell " + i, Desk.outcome(() -> x.cell(0, i)), OUT);
        }
        Desk.due("cell of a break", Desk.outcome(() -> x.cell(1, 0)), OUT);
    }

    private static void holdsTheDensestText() {
        DotBook x = Desk.withRules(20, 10, "a ab=1-2-3");
        Desk.block(x, Desk.PARAGRAPH, "AB1".repeat(26) + "AB");
        Desk.due("size", x.size(0), 26 * 7 + 5);
        Desk.due("last cell", x.cell(0, 26 * 7 + 4), 4 + 64 * 78);
    }
}
