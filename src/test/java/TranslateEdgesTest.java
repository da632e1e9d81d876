/** The edges of promises 6 (block), 7 (size) and 8 (cell), and of "to translate": each sentence has a test of its own. */
public final class TranslateEdgesTest {
    private static final String REFUSED = "IllegalArgumentException";
    private static final String FULL = "IllegalStateException";
    private static final String OUT = "IndexOutOfBoundsException";
    private static final int LEAST = Integer.MIN_VALUE;
    private static final int GREATEST = Integer.MAX_VALUE;

    public static void main(String[] args) {
        Desk.run(
            TranslateEdgesTest::aWordIsAsLongAsCanBe,
            TranslateEdgesTest::aNumberIsAsLongAsCanBe,
            TranslateEdgesTest::aSpaceIsBlankAndAMarkItself,
            TranslateEdgesTest::digitsHaveTheCellsOfLetters,
            TranslateEdgesTest::aNumberHasItsSign,
            TranslateEdgesTest::aLetterSignComesBeforeAToJ,
            TranslateEdgesTest::twoCapitalsHaveTwoSigns,
            TranslateEdgesTest::capitalWordsAreWrittenAsSmallOnes,
            TranslateEdgesTest::otherCapitalsHaveOneSign,
            TranslateEdgesTest::aRuleHoldsInEitherCase,
            TranslateEdgesTest::aRuleHoldsNoCapitalBehindItsFirst,
            TranslateEdgesTest::mostLettersComeFirst,
            TranslateEdgesTest::leastKindComesFirst,
            TranslateEdgesTest::itsLettersAreGoneOver,
            TranslateEdgesTest::aLetterWithoutRuleGivesItsCell,
            TranslateEdgesTest::wholeIsAllTheWord,
            TranslateEdgesTest::beginHasLettersBehind,
            TranslateEdgesTest::endHasLettersBefore,
            TranslateEdgesTest::middleHasLettersOnBothSides,
            TranslateEdgesTest::alwaysIsAnywhere,
            TranslateEdgesTest::originOfARuleIsItsFirstLetter,
            TranslateEdgesTest::originOfASignIsWhatIsBehind,
            TranslateEdgesTest::answersHowManyBlocks,
            TranslateEdgesTest::wipesWhatWasTaken,
            TranslateEdgesTest::aBreakHasNoCells,
            TranslateEdgesTest::refusesOtherKinds,
            TranslateEdgesTest::refusesOtherCharacters,
            TranslateEdgesTest::refusesThemForABreak,
            TranslateEdgesTest::refusesTheThirteenth,
            TranslateEdgesTest::looksAtTheArgumentFirst,
            TranslateEdgesTest::refusalsChangeNothing,
            TranslateEdgesTest::blocksStayAsTheyAre,
            TranslateEdgesTest::sizeOfNoCells,
            TranslateEdgesTest::sizeOfNoBlock,
            TranslateEdgesTest::cellTellsItsOrigin,
            TranslateEdgesTest::cellOfNoBlock,
            TranslateEdgesTest::cellOfNoPlace);
    }

    private static void gives(String rules, String text, String cells) {
        DotBook x = rules.isEmpty() ? new DotBook(20, 10) : Desk.withRules(20, 10, rules);
        Desk.block(x, Desk.PARAGRAPH, text);
        Desk.due("cells of [" + text + "] by [" + rules + "]", Desk.cells(x, 0), cells);
    }

    private static void originsAre(String rules, String text, String origins) {
        DotBook x = rules.isEmpty() ? new DotBook(20, 10) : Desk.withRules(20, 10, rules);
        Desk.block(x, Desk.PARAGRAPH, text);
        Desk.due("origins of [" + text + "] by [" + rules + "]", Desk.origins(x, 0), origins);
    }

    private static void aWordIsAsLongAsCanBe() {
        Desk.sentence("Terms, for promise 6", "WORDS (runs of letters, as long as can be)");
        gives("w ab=4", "abA", "1 3 32 1");
        gives("w ab=4", "Bab", "32 3 1 3");
        gives("w ab=4", "ab'ab ab1ab", "8 4 8 0 8 60 1 48 8");
        gives("e ab=4", "a".repeat(79) + "b", "1 ".repeat(78) + "8");
        gives("w ab=4", "z".repeat(78) + "ab", "53 ".repeat(78) + "1 3");
    }

    private static void aNumberIsAsLongAsCanBe() {
        Desk.sentence("Terms, for promise 6", "NUMBERS (runs of digits, likewise)");
        gives("", "0", "60 26");
        gives("", "1".repeat(80), "60" + " 1".repeat(80));
        gives("", "1 1", "60 1 0 60 1");
        gives("", "1,1", "60 1 2 60 1");
        gives("", "1k1", "60 1 5 60 1");
    }

    private static void aSpaceIsBlankAndAMarkItself() {
        Desk.sentence("Terms, for promise 6", "A space gives a BLANK cell, a mark its own.");
        gives("", "", "");
        gives("", " ", "0");
        gives("", " ".repeat(80), "0" + " 0".repeat(79));
        gives("", "  a  ", "0 0 1 0 0");
        gives("", ".,;:?!-'", "50 2 6 18 38 22 36 4");
        gives("", "--", "36 36");
    }

    private static void digitsHaveTheCellsOfLetters() {
        Desk.sentence("Terms, for promise 6", "the digits 1 .. 9 and 0 have those of a .. i and j");
        gives("", "1", "60 1");
        gives("", "9", "60 10");
        gives("", "0", "60 26");
        gives("", "9012", "60 10 26 1 3");
    }

    private static void aNumberHasItsSign() {
        Desk.sentence("Terms, for promise 6", "A number gives a NUMBER sign and the cells of its digits");
        gives("", "a1b", "1 60 1 48 3");
        gives("", "A1", "32 1 60 1");
        gives("", "-1-", "36 60 1 36");
        gives("a ab=4", "12", "60 1 3");
    }

    private static void aLetterSignComesBeforeAToJ() {
        Desk.sentence("Terms, for promise 6", "then a LETTER sign, if a small letter a .. j is next");
        gives("", "1a", "60 1 48 1");
        gives("", "1j", "60 1 48 26");
        gives("", "1k", "60 1 5");
        gives("", "1z", "60 1 53");
        gives("", "1A", "60 1 32 1");
        gives("", "1J", "60 1 32 26");
        gives("", "1AB", "60 1 32 32 1 3");
        gives("", "1 a", "60 1 0 1");
        gives("", "1.a", "60 1 50 1");
        gives("", "1", "60 1");
        gives("", "11a", "60 1 1 48 1");
        gives("a ab=4", "1ab", "60 1 48 8");
        gives("a ka=4", "1ka", "60 1 8");
    }

    private static void twoCapitalsHaveTwoSigns() {
        Desk.sentence("Terms, for promise 6",
            "A word of two letters or more that are all capital gives two CAPITAL signs");
        gives("", "A", "32 1");
        gives("", "AZ", "32 32 1 53");
        gives("", "ABC", "32 32 1 3 9");
        gives("", "A".repeat(80), "32 32" + " 1".repeat(80));
        gives("", "A A", "32 1 0 32 1");
        gives("", "A'A", "32 1 4 32 1");
        gives("", "AB1AB", "32 32 1 3 60 1 32 32 1 3");
        gives("", "ABc", "32 1 32 3 9");
        gives("", "aBC", "1 32 3 32 9");
        gives("", "AbC", "32 1 3 32 9");
    }

    private static void capitalWordsAreWrittenAsSmallOnes() {
        Desk.sentence("Terms, for promise 6", "and then what it would give in small letters");
        gives("w ab=4", "AB", "32 32 8");
        gives("b ab=4;m cd=5;e ef=6", "ABCDEF", "32 32 8 16 32");
        gives("a abcdef=4", "ABCDEF", "32 32 8");
    }

    private static void otherCapitalsHaveOneSign() {
        Desk.sentence("Terms, for promise 6", "if the letter is capital, it gives a CAPITAL sign");
        gives("", "Aa", "32 1 1");
        gives("", "aA", "1 32 1");
        gives("", "AaA", "32 1 1 32 1");
        gives("", "ZzZ", "32 53 53 32 53");
        gives("a ab=4", "Abc", "32 8 9");
        gives("a ab=4", "cAb", "9 32 8");
    }

    private static void aRuleHoldsInEitherCase() {
        Desk.sentence("Terms, for promise 6", "whose letters are those that stand from there on (in either case)");
        gives("w ab=4", "ab Ab AB", "8 0 32 8 0 32 32 8");
        gives("w az=4", "az Az AZ", "8 0 32 8 0 32 32 8");
        gives("w za=4", "za Za ZA", "8 0 32 8 0 32 32 8");
        gives("a abc=4", "ab abd ab'c", "1 3 0 1 3 25 0 1 3 4 9");
    }

    private static void aRuleHoldsNoCapitalBehindItsFirst() {
        Desk.sentence("Terms, for promise 6", "by which no letter but that first one is a capital one");
        gives("a abc=4", "Abc", "32 8");
        gives("a abc=4", "aBc", "1 32 3 9");
        gives("a abc=4", "abC", "1 3 32 9");
        gives("a abc=4", "ABc", "32 1 32 3 9");
        gives("a abc=4;a ab=5", "abC", "16 32 9");
        gives("a ab=4", "abAbaBAB", "8 32 8 1 32 3 32 1 32 3");
    }

    private static void mostLettersComeFirst() {
        Desk.sentence("Terms, for promise 6", "of these the one with the most letters is used");
        gives("a abcdef=4;a abcde=5;a ab=6", "abcdef", "8");
        gives("a ab=6;a abcde=5;a abcdef=4", "abcdef", "8");
        gives("a ab=6;a abcde=5;a abcdef=4", "abcde", "16");
        gives("b ab=6;a abc=5", "abcd", "16 25");
        gives("a abc=4-5-6;a ab=1", "abc", "8 16 32");
        gives("w abc=4;a ab=5", "abcd", "16 9 25");
    }

    private static void leastKindComesFirst() {
        Desk.sentence("Terms, for promise 6", "several the one with the least kind");
        gives("a ab=6;w ab=4", "ab", "8");
        gives("w ab=4;a ab=6", "ab", "8");
        gives("a ab=6;b ab=4", "abc", "8 9");
        gives("a ab=6;m ab=4", "cabc", "9 8 9");
        gives("a ab=6;e ab=4", "cab", "9 8");
    }

    private static void itsLettersAreGoneOver() {
        Desk.sentence("Terms, for promise 6", "it gives its cells, and its letters are gone over");
        gives("a ab=4;a bc=5", "abc", "8 9");
        gives("a aa=4", "aaa", "8 1");
        gives("a aa=4-5", "aaaa", "8 16 8 16");
        gives("a bc=5;b ab=4;a cd=6", "abcd", "8 32");
    }

    private static void aLetterWithoutRuleGivesItsCell() {
        Desk.sentence("Terms, for promise 6", "If there is none, the letter gives its cell.");
        gives("", "az", "1 53");
        gives("a ab=4", "ba", "3 1");
        gives("a ab=4", "a b", "1 0 3");
        gives("a ab=4", "a", "1");
    }

    private static void wholeIsAllTheWord() {
        Desk.sentence("Terms, for promise 6", "WHOLE, if its letters are all the word");
        gives("w ab=4", "ab", "8");
        gives("w ab=4", "abc", "1 3 9");
        gives("w ab=4", "cab", "9 1 3");
        gives("w ab=4", "-ab-", "36 8 36");
        gives("w ab=4", "1ab1", "60 1 48 8 60 1");
    }

    private static void beginHasLettersBehind() {
        Desk.sentence("Terms, for promise 6", "BEGIN, at the beginning, if more letters follow its own");
        gives("b ab=4", "abc", "8 9");
        gives("b ab=4", "ab", "1 3");
        gives("b ab=4", "ab1", "1 3 60 1");
        gives("b ab=4", "cabc", "9 1 3 9");
        gives("b ab=4", "1abC", "60 1 48 8 32 9");
    }

    private static void endHasLettersBefore() {
        Desk.sentence("Terms, for promise 6", "END, if it is not at the beginning and no letter follows");
        gives("e ab=4", "cab", "9 8");
        gives("e ab=4", "ab", "1 3");
        gives("e ab=4", "-ab", "36 1 3");
        gives("e ab=4", "cabc", "9 1 3 9");
        gives("e ab=4", "cab1", "9 8 60 1");
        gives("e ab=4", "abab", "1 3 8");
    }

    private static void middleHasLettersOnBothSides() {
        Desk.sentence("Terms, for promise 6", "MIDDLE, if it is not at the beginning and more letters follow");
        gives("m ab=4", "cabc", "9 8 9");
        gives("m ab=4", "abc", "1 3 9");
        gives("m ab=4", "cab", "9 1 3");
        gives("m ab=4", "ab", "1 3");
        gives("m ab=4", "1ab1", "60 1 48 1 3 60 1");
        gives("m ab=4", "ababab", "1 3 8 1 3");
    }

    private static void alwaysIsAnywhere() {
        Desk.sentence("Terms, for promise 6", "ALWAYS anywhere");
        gives("a ab=4", "ab abc cabc cab", "8 0 8 9 0 9 8 9 0 9 8");
    }

    private static void originOfARuleIsItsFirstLetter() {
        Desk.sentence("Terms, for promise 8",
            "the place (from 0) in the text of the first character for which it (or the rule) stands");
        originsAre("", "a b.", "0 1 2 3");
        originsAre("a bc=4-5-6", "abcd", "0 1 1 1 3");
        originsAre("a ab=4-5", " abab", "0 1 1 3 3");
        originsAre("", "12", "0 0 1");
        originsAre("e yz=4", "a".repeat(78) + "yz",
            "0 1 2 3 4 5 6 7 8 9 10 11 12 13 14 15 16 17 18 19 20 21 22 23 24 25 26 27 28 29 30 31 32 33 34 35 36 37 38 39 "
            + "40 41 42 43 44 45 46 47 48 49 50 51 52 53 54 55 56 57 58 59 60 61 62 63 64 65 66 67 68 69 70 71 72 73 74 75 "
            + "76 77 78");
    }

    private static void originOfASignIsWhatIsBehind() {
        Desk.sentence("Terms, for promise 8", "a sign that of the character behind it (after a number: of the letter)");
        originsAre("", "-A", "0 1 1");
        originsAre("", "-AB", "0 1 1 1 2");
        originsAre("", "aBc", "0 1 1 2");
        originsAre("", "-12a", "0 1 1 2 3 3");
        originsAre("", "1A", "0 0 1 1");
        originsAre("a ab=4-5", "1ab", "0 0 1 1 1");
        originsAre("a ab=4-5", "-Ab", "0 1 1 1");
        originsAre("a ab=4-5", "-AB", "0 1 1 1 1");
    }

    private static void answersHowManyBlocks() {
        Desk.sentence("Promise 6", "how many blocks there are then");
        DotBook x = new DotBook(10, 4);
        for (int b = 1; b <= 12; b++) {
            Desk.due("block " + b, Desk.block(x, b % 4, "a"), b);
        }
        x.clear();
        Desk.due("behind clear", Desk.block(x, Desk.PARAGRAPH, "a"), 1);
    }

    private static void wipesWhatWasTaken() {
        Desk.sentence("Promise 6", "Nothing is typed then (nor behind a break, which has no cells of it).");
        DotBook x = new DotBook(10, 4);
        for (int kind = Desk.PARAGRAPH; kind <= Desk.BREAK; kind++) {
            Desk.block(x, kind, "abc");
            Desk.due("behind kind " + kind, Desk.countTyped(x), 0);
        }
    }

    private static void aBreakHasNoCells() {
        Desk.sentence("Terms, for promise 6", "the cells that its text was translated to (none for a break)");
        DotBook x = new DotBook(10, 4);
        Desk.block(x, Desk.BREAK, "a".repeat(80));
        Desk.due("size", x.size(0), 0);
        Desk.due("cell", Desk.outcome(() -> x.cell(0, 0)), OUT);
        Desk.due("where", x.where(0), -1);
        Desk.block(x, Desk.PARAGRAPH, "b");
        Desk.due("nor has the next block", Desk.cells(x, 1), "3");
    }

    private static void refusesOtherKinds() {
        Desk.sentence("Promise 6", "IllegalArgumentException: there is no such kind");
        DotBook x = new DotBook(10, 4);
        int[] none = {LEAST, -2, -1, 4, 5, 256, 65536, GREATEST};
        for (int kind : none) {
            Desk.due("kind " + kind, Desk.outcome(() -> x.block(kind)), REFUSED);
        }
        for (int kind = 0; kind <= 3; kind++) {
            Desk.due("kind " + kind, Desk.block(x, kind, ""), kind + 1);
        }
    }

    private static void refusesOtherCharacters() {
        Desk.sentence("Promise 6", "something is typed (for a break, too) that is no letter, digit, mark or space");
        String taken = "abcdefghijklmnopqrstuvwxyzABCDEFGHIJKLMNOPQRSTUVWXYZ0123456789.,;:?!-' ";
        for (char c = 32; c <= 126; c++) {
            DotBook x = new DotBook(10, 4);
            String answer = taken.indexOf(c) >= 0 ? "1" : REFUSED;
            Desk.due("[" + c + "]", Desk.block(x, Desk.PARAGRAPH, "" + c), answer);
        }
        Desk.due("at the beginning", Desk.block(new DotBook(10, 4), Desk.HEADING, "=ab"), REFUSED);
        Desk.due("in the middle", Desk.block(new DotBook(10, 4), Desk.ITEM, "a=b"), REFUSED);
        Desk.due("at the end", Desk.block(new DotBook(10, 4), Desk.PARAGRAPH, "ab="), REFUSED);
        Desk.due("as the 80th", Desk.block(new DotBook(10, 4), Desk.PARAGRAPH, "a".repeat(79) + "="), REFUSED);
    }

    private static void refusesThemForABreak() {
        Desk.sentence("Promise 6", "(for a break, too)");
        DotBook x = new DotBook(10, 4);
        Desk.due("break", Desk.block(x, Desk.BREAK, "a="), REFUSED);
        Desk.due("what is typed stays", Desk.countTyped(x), 2);
        Desk.due("the next block is the first", Desk.block(x, Desk.BREAK, "a-"), 1);
    }

    private static DotBook full() {
        DotBook x = new DotBook(10, 4);
        for (int b = 0; b < 12; b++) {
            Desk.block(x, Desk.ITEM, "a");
        }
        return x;
    }

    private static void refusesTheThirteenth() {
        Desk.sentence("Promise 6", "IllegalStateException: there are 12");
        DotBook x = full();
        for (int kind = Desk.PARAGRAPH; kind <= Desk.BREAK; kind++) {
            Desk.due("kind " + kind, Desk.block(x, kind, "b"), FULL);
        }
        x.wipe();
        Desk.due("empty", Desk.block(x, Desk.PARAGRAPH, ""), FULL);
        Desk.due("there are 12", x.size(11), 1);
        Desk.due("there is no 13th", Desk.outcome(() -> x.size(12)), OUT);
    }

    private static void looksAtTheArgumentFirst() {
        Desk.sentence("Promise 6", "IllegalArgumentException: there is no such kind", "named before IllegalStateException");
        DotBook x = full();
        Desk.due("no such kind", Desk.block(x, 4, "b"), REFUSED);
        x.wipe();
        Desk.due("no such character", Desk.block(x, Desk.PARAGRAPH, "="), REFUSED);
    }

    private static void refusalsChangeNothing() {
        Desk.sentence("Promise 6", "IllegalStateException: there are 12", "nothing is taken, and what is typed stays");
        DotBook x = new DotBook(10, 4);
        Desk.block(x, Desk.ITEM, "b");
        Desk.due("no such kind", Desk.block(x, 4, "ab"), REFUSED);
        Desk.due("block 1", Desk.outcome(() -> x.size(1)), OUT);
        Desk.due("taken later", x.block(Desk.PARAGRAPH), 2);
        Desk.due("the cells", Desk.cells(x, 1), "1 3");
        DotBook y = full();
        int where = y.where(11);
        Desk.due("no room", Desk.block(y, Desk.HEADING, "cd"), FULL);
        Desk.due("the last block is where it was", y.where(11), where);
        Desk.due("pages", y.pages(), 4);
        Desk.due("heading", y.heading(0), -1);
        y.clear();
        Desk.due("taken later", y.block(Desk.PARAGRAPH), 1);
        Desk.due("the cells", Desk.cells(y, 0), "9 25");
    }

    private static void blocksStayAsTheyAre() {
        Desk.sentence("Promise 6", "Takes what is typed, translated");
        DotBook x = new DotBook(10, 4);
        Desk.block(x, Desk.PARAGRAPH, "ab");
        Desk.rules(x, false, "w ab=4");
        Desk.due("by the rules that there were", Desk.cells(x, 0), "1 3");
        Desk.block(x, Desk.PARAGRAPH, "ab");
        Desk.due("by the rules that there are", Desk.cells(x, 1), "8");
    }

    private static void sizeOfNoCells() {
        Desk.sentence("Promise 7", "How many cells block b has.");
        DotBook x = Desk.withRules(10, 4, "a ab=1-2-3");
        Desk.block(x, Desk.HEADING, "");
        Desk.due("none", x.size(0), 0);
        Desk.block(x, Desk.BREAK, "abc");
        Desk.due("of a break", x.size(1), 0);
        Desk.block(x, Desk.PARAGRAPH, " ");
        Desk.due("a blank one", x.size(2), 1);
        Desk.block(x, Desk.PARAGRAPH, "AB1".repeat(26) + "AB");
        Desk.due("as many as 80 characters can give", x.size(3), 26 * 7 + 5);
        Desk.due("the last of them", x.cell(3, 26 * 7 + 4), 4 + 64 * 78);
    }

    private static DotBook withTwoBlocks() {
        DotBook x = new DotBook(10, 4);
        Desk.block(x, Desk.PARAGRAPH, "ab");
        Desk.block(x, Desk.BREAK, "");
        return x;
    }

    private static void sizeOfNoBlock() {
        Desk.sentence("Promise 7", "IndexOutOfBoundsException: there is none.");
        DotBook x = withTwoBlocks();
        int[] none = {LEAST, -1, 2, 3, 11, 12, 13, GREATEST};
        for (int b : none) {
            Desk.due("block " + b, Desk.outcome(() -> x.size(b)), OUT);
        }
        x.clear();
        Desk.due("behind clear", Desk.outcome(() -> x.size(0)), OUT);
    }

    private static void cellTellsItsOrigin() {
        Desk.sentence("Promise 8", "with its origin: cell + 64 * origin");
        DotBook x = Desk.withRules(10, 4, "a yz=123456");
        Desk.block(x, Desk.PARAGRAPH, " ".repeat(78) + "yz");
        Desk.due("the first", x.cell(0, 0), 0);
        Desk.due("a blank one", x.cell(0, 77), 64 * 77);
        Desk.due("the last", x.cell(0, 78), 63 + 64 * 78);
        Desk.block(x, Desk.PARAGRAPH, " ".repeat(79) + "A");
        Desk.due("a sign at the greatest place", x.cell(1, 79), 32 + 64 * 79);
        Desk.due("its letter", x.cell(1, 80), 1 + 64 * 79);
    }

    private static void cellOfNoBlock() {
        Desk.sentence("Promise 8", "IndexOutOfBoundsException: there is none.", "no such block");
        DotBook x = withTwoBlocks();
        int[] none = {LEAST, -1, 2, 3, 11, 12, 13, GREATEST};
        for (int b : none) {
            Desk.due("block " + b, Desk.outcome(() -> x.cell(b, 0)), OUT);
        }
        x.clear();
        Desk.due("behind clear", Desk.outcome(() -> x.cell(0, 0)), OUT);
    }

    private static void cellOfNoPlace() {
        Desk.sentence("Promise 8", "IndexOutOfBoundsException: there is none.", "no such cell");
        DotBook x = withTwoBlocks();
        int[] none = {LEAST, -1, 2, 3, 79, 80, 199, 200, 201, GREATEST};
        for (int i : none) {
            Desk.due("cell " + i, Desk.outcome(() -> x.cell(0, i)), OUT);
        }
        Desk.due("the first", x.cell(0, 0), 1);
        Desk.due("the last", x.cell(0, 1), 3 + 64);
        Desk.due("of a break", Desk.outcome(() -> x.cell(1, 0)), OUT);
        x.clear();
        Desk.block(x, Desk.PARAGRAPH, "a");
        Desk.due("of a longer block before", Desk.outcome(() -> x.cell(0, 1)), OUT);
    }
}
