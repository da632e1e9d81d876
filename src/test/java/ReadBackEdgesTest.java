/** The edges of promises 9 (back) and 10 (heard), and of "to read back": each sentence has a test of its own. */
public final class ReadBackEdgesTest {
    private static final String OUT = "IndexOutOfBoundsException";
    private static final int LEAST = Integer.MIN_VALUE;
    private static final int GREATEST = Integer.MAX_VALUE;

    public static void main(String[] args) {
        Desk.run(
            ReadBackEdgesTest::blankCellsAreSpaces,
            ReadBackEdgesTest::digitsFollowANumberSign,
            ReadBackEdgesTest::otherCellsEndANumber,
            ReadBackEdgesTest::aNumberEndsWithItsPiece,
            ReadBackEdgesTest::letterSignsArePassedOver,
            ReadBackEdgesTest::capitalSignsArePassedOver,
            ReadBackEdgesTest::oneSignIsForTheNextLetter,
            ReadBackEdgesTest::twoSignsAreForTheRestOfThePiece,
            ReadBackEdgesTest::moreThanTwoSignsAreAsTwo,
            ReadBackEdgesTest::signsComeBeforeRules,
            ReadBackEdgesTest::wholeIsAllThePiece,
            ReadBackEdgesTest::beginHasCellsBehind,
            ReadBackEdgesTest::middleHasCellsOnBothSides,
            ReadBackEdgesTest::endHasCellsBefore,
            ReadBackEdgesTest::alwaysIsAnywhere,
            ReadBackEdgesTest::capitalSignsAtTheBeginningDoNotCount,
            ReadBackEdgesTest::otherSignsCount,
            ReadBackEdgesTest::mostCellsComeFirst,
            ReadBackEdgesTest::leastKindComesNext,
            ReadBackEdgesTest::leastNumberComesLast,
            ReadBackEdgesTest::lettersAndMarksAreThemselves,
            ReadBackEdgesTest::otherCellsAreUnknown,
            ReadBackEdgesTest::readsByTheRulesThatThereAre,
            ReadBackEdgesTest::answersHowManyCharacters,
            ReadBackEdgesTest::refusesOtherBlocks,
            ReadBackEdgesTest::refusalsKeepWhatIsHeard,
            ReadBackEdgesTest::isEmptyAtFirst,
            ReadBackEdgesTest::isASpaceWhereThereIsNone,
            ReadBackEdgesTest::forgetsTheTextBefore);
    }

    /** What is heard when a text is translated with rules, and then read back with those and later ones. */
    private static void hears(String rules, String laterRules, String text, String heard) {
        DotBook x = rules.isEmpty() ? new DotBook(20, 10) : Desk.withRules(20, 10, rules);
        Desk.block(x, Desk.PARAGRAPH, text);
        if (!laterRules.isEmpty()) {
            Desk.rules(x, false, laterRules);
        }
        String what = "[" + text + "] by [" + rules + "] and [" + laterRules + "]";
        Desk.due("how many of " + what, x.back(0), heard.length());
        Desk.due("heard of " + what, Desk.heard(x, 0), heard);
    }

    private static void blankCellsAreSpaces() {
        Desk.sentence("Terms, for promise 9", "pieces are joined by as many spaces as there were blank cells");
        hears("", "", "", "");
        hears("", "", " ", " ");
        hears("", "", " ".repeat(80), " ".repeat(80));
        hears("", "", "a b", "a b");
        hears("", "", "a   b", "a   b");
        hears("", "", "  a", "  a");
        hears("", "", "a  ", "a  ");
    }

    private static void digitsFollowANumberSign() {
        Desk.sentence("Terms, for promise 9",
            "A NUMBER sign is passed over, and all cells from there on that are those of digits are digits");
        hears("", "", "1234567890", "1234567890");
        hears("", "", "0", "0");
        hears("", "", "9".repeat(80), "9".repeat(80));
        hears("", "a vw=1", "11a1", "11vw1");
        hears("a vw=3456", "", "vwabcdefghij", "1234567890");
        hears("a vw=3456", "", "vw", "");
        hears("a vw=3456", "", "vwvw1", "1");
    }

    private static void otherCellsEndANumber() {
        Desk.sentence("Terms, for promise 9", "up to the first other one");
        hears("", "", "1k", "1k");
        hears("", "", "1ka", "1ka");
        hears("", "", "1.", "1.");
        hears("", "", "1,a", "1,a");
        hears("", "", "1a", "1a");
        hears("", "", "1A", "1A");
        hears("a vw=3456", "", "vwakab", "1kab");
        hears("a vw=3456;a xy=4", "", "vwaxya", "1xya");
    }

    private static void aNumberEndsWithItsPiece() {
        Desk.sentence("Terms, for promise 9", "cut at blank cells into PIECES", "a number ends with its own");
        hears("", "", "1 a", "1 a");
        hears("a vw=3456", "", "vw a", " a");
        hears("a vw=3456", "", "vwa a", "1 a");
    }

    private static void letterSignsArePassedOver() {
        Desk.sentence("Terms, for promise 9", "A LETTER sign is passed over.");
        hears("", "", "1a", "1a");
        hears("", "", "1j2b", "1j2b");
        hears("a vw=56", "", "vw", "");
        hears("a vw=56", "", "avwb", "ab");
        hears("a vw=56-56", "", "vwa vw", "a ");
    }

    private static void capitalSignsArePassedOver() {
        Desk.sentence("Terms, for promise 9", "CAPITAL signs are passed over");
        hears("a vw=6", "", "vw", "");
        hears("a vw=6-6-6", "", "vw", "");
        hears("a vw=6", "", "avw", "a");
        hears("a vw=6", "", "1vw", "1");
    }

    private static void oneSignIsForTheNextLetter() {
        Desk.sentence("Terms, for promise 9", "behind one, the next letter is capital");
        hears("", "", "Ab", "Ab");
        hears("", "", "Za", "Za");
        hears("", "", "aBa", "aBa");
        hears("", "", "AbAbA", "AbAbA");
        hears("w abc=4", "", "Abc", "Abc");
        hears("a abc=4", "", "xAbcx", "xAbcx");
        hears("a vw=6", "", "vw-ab", "-Ab");
        hears("a vw=6", "", "vw12kb", "12Kb");
        hears("a vw=6;a xy=56", "", "vwxyab", "Ab");
        hears("a vw=6;b xy=4", "", "-vw ab", "- ab");
        hears("a vw=6", "", "avw b", "a b");
    }

    private static void twoSignsAreForTheRestOfThePiece() {
        Desk.sentence("Terms, for promise 9", "behind two or more side by side, all letters of the piece from there on");
        hears("", "", "AB", "AB");
        hears("", "", "AZ", "AZ");
        hears("", "", "AB ab", "AB ab");
        hears("", "", "AB-ab", "AB-AB");
        hears("", "", "ab-AB-ab ab", "ab-AB-AB ab");
        hears("", "", "AB1k", "AB1K");
        hears("", "", "AB-Ab", "AB-AB");
        hears("w abc=4", "", "ABC", "ABC");
        hears("a vw=6", "", "vwAb", "AB");
        hears("a vw=6", "", "vwavwb", "AB");
        hears("a vw=6-56-6", "", "vwab", "Ab");
    }

    private static void moreThanTwoSignsAreAsTwo() {
        Desk.sentence("Terms, for promise 9", "two or more side by side");
        hears("a vw=6-6", "", "vwab a", "AB a");
        hears("a vw=6-6-6", "", "vwab a", "AB a");
        hears("a vw=6-6-6", "", "vwvwab a", "AB a");
        hears("a vw=6-6", "", "avwba a", "aBA a");
    }

    private static void signsComeBeforeRules() {
        Desk.sentence("Terms, for promise 9", "Otherwise, of the rules whose cells stand", "signs come first");
        hears("", "a vw=6-1", "Ab", "Ab");
        hears("", "a vw=3456-1", "1b", "1b");
        hears("", "a vw=56-1", "1a", "1a");
        hears("", "a vw=3456;a xy=6", "1 A", "1 A");
        hears("", "a vw=1-6-12", "aBc", "vwc");
        hears("", "a vw=13-3456-1", "k1", "vw");
    }

    private static void wholeIsAllThePiece() {
        Desk.sentence("Terms, for promise 9", "that APPLY (as above, with cells of the piece", "WHOLE");
        hears("", "w vw=1", "a", "vw");
        hears("", "w vw=1", "a a", "vw vw");
        hears("", "w vw=1", "ab ba bab a.", "ab ba bab a.");
        hears("", "w vw=1-12-14", "abc abcd", "vw abcd");
    }

    private static void beginHasCellsBehind() {
        Desk.sentence("Terms, for promise 9", "that APPLY (as above, with cells of the piece", "BEGIN");
        hears("", "b vw=1", "ab", "vwb");
        hears("", "b vw=1", "a. a-", "vw. vw-");
        hears("", "b vw=1", "a ba bab -ab", "a ba bab -ab");
        hears("", "b vw=1", "aa", "vwa");
    }

    private static void middleHasCellsOnBothSides() {
        Desk.sentence("Terms, for promise 9", "that APPLY (as above, with cells of the piece", "MIDDLE");
        hears("", "m vw=1", "bab", "bvwb");
        hears("", "m vw=1", "-a-", "-vw-");
        hears("", "m vw=1", "a ab ba", "a ab ba");
        hears("", "m vw=1", "aaaa", "avwvwa");
    }

    private static void endHasCellsBefore() {
        Desk.sentence("Terms, for promise 9", "that APPLY (as above, with cells of the piece", "END");
        hears("", "e vw=1", "ba", "bvw");
        hears("", "e vw=1", "-a", "-vw");
        hears("", "e vw=1", "a ab bab ba-", "a ab bab ba-");
        hears("", "e vw=1", "aa", "avw");
    }

    private static void alwaysIsAnywhere() {
        Desk.sentence("Terms, for promise 9", "that APPLY (as above, with cells of the piece", "ALWAYS");
        hears("", "a vw=1", "a ab bab ba", "vw vwb bvwb bvw");
    }

    private static void capitalSignsAtTheBeginningDoNotCount() {
        Desk.sentence("Terms, for promise 9", "but for CAPITAL signs at its beginning");
        hears("", "w vw=1", "A", "Vw");
        hears("", "b vw=1", "Ab", "Vwb");
        hears("", "b vw=1", "AB", "VWB");
        hears("", "e vw=1", "A", "A");
        hears("", "m vw=1", "Ab AB", "Ab AB");
        hears("", "w vw=1-12", "AB", "VW");
        hears("a xy=6-6-6", "w vw=1", "xya", "VW");
        hears("", "e vw=1", "bA", "bVw");
        hears("", "m vw=1", "bAb", "bVwb");
    }

    private static void otherSignsCount() {
        Desk.sentence("Terms, for promise 9", "with cells of the piece", "other signs are of them");
        hears("", "w vw=1;b xy=1", "1a 1ab", "1a 1ab");
        hears("", "e vw=1;m xy=1", "1a 1ab", "1vw 1xyb");
        hears("a xy=56", "w vw=1", "xya", "a");
        hears("a xy=56", "e vw=1", "xya", "vw");
        hears("a xy=6", "w vw=1", "axy", "a");
        hears("a xy=6", "b vw=1", "axy", "vw");
    }

    private static void mostCellsComeFirst() {
        Desk.sentence("Terms, for promise 9", "the one with the most cells is used");
        hears("", "a vw=1;a wx=1-12;a xy=1-12-14", "abc", "xy");
        hears("", "a xy=1-12-14;a wx=1-12;a vw=1", "abc", "xy");
        hears("", "a xy=1-12-14;a wx=1-12;a vw=1", "abaab", "wxvwwx");
        hears("", "w vw=1;a wx=1-12", "ab", "wx");
        hears("", "b vw=1;a wx=1-12", "ab", "wx");
        hears("", "a uvwxyz=1;a wx=1-12", "ab", "wx");
        hears("", "a vw=1-12;a xy=12-14", "abc", "vwc");
    }

    private static void leastKindComesNext() {
        Desk.sentence("Terms, for promise 9", "of several the one with the least kind");
        hears("", "a uv=1;w xy=1", "a", "xy");
        hears("", "a uv=1;b xy=1", "ab", "xyb");
        hears("", "a uv=1;m xy=1", "bab", "bxyb");
        hears("", "a uv=1;e xy=1", "ba", "bxy");
        hears("", "a uvwxyz=1;w xy=1", "a", "xy");
    }

    private static void leastNumberComesLast() {
        Desk.sentence("Terms, for promise 9", "then the one with the least number");
        hears("", "a vw=1;a xy=1;a uvwxyz=1", "a", "vw");
        hears("", "e xy=1;e vw=1", "ba", "bxy");
        hears("", "w xyz=1-12;w vw=1-12", "ab", "xyz");
    }

    private static void lettersAndMarksAreThemselves() {
        Desk.sentence("Terms, for promise 9", "a letter's or mark's cell gives that");
        hears("", "", "abcdefghijklmnopqrstuvwxyz", "abcdefghijklmnopqrstuvwxyz");
        hears("", "", ".,;:?!-'", ".,;:?!-'");
    }

    private static void otherCellsAreUnknown() {
        Desk.sentence("Terms, for promise 9", "any other one gives #");
        hears("b vw=4", "", "-vwx", "-#x");
        hears("b vw=45-123456-5", "", "-vwx", "-###x");
        hears("w vw=4", "", "vw-", "#-");
        hears("w vw=4", "", "Vw- VW-", "#- #-");
        hears("w vw=6-4", "", "vw-a", "#-A");
    }

    private static void readsByTheRulesThatThereAre() {
        Desk.sentence("Promise 9", "The text that is heard is the cells of block b, read back");
        DotBook x = new DotBook(20, 10);
        Desk.block(x, Desk.PARAGRAPH, "a");
        Desk.due("before a rule", Desk.heard(x, 0), "a");
        Desk.rules(x, false, "w vw=1");
        Desk.due("heard before still", x.heard(0), 'a');
        Desk.due("with the rule", Desk.heard(x, 0), "vw");
    }

    private static void answersHowManyCharacters() {
        Desk.sentence("Promise 9", "how many characters");
        DotBook x = new DotBook(20, 10);
        Desk.block(x, Desk.PARAGRAPH, "");
        Desk.due("none", x.back(0), 0);
        Desk.block(x, Desk.BREAK, "abc");
        Desk.due("of a break", x.back(1), 0);
        Desk.block(x, Desk.PARAGRAPH, "12AB");
        Desk.due("signs are none", x.back(2), 4);
        Desk.block(x, Desk.PARAGRAPH, "a".repeat(80));
        Desk.due("of eighty letters", x.back(3), 80);
        Desk.rules(x, false, "a uvwxyz=1");
        Desk.due("as many as eighty letters can give", x.back(3), 480);
        Desk.due("the last of them", x.heard(479), 'z');
        DotBook y = Desk.withRules(20, 10, "w ab=4-4-4");
        Desk.block(y, Desk.PARAGRAPH, "ab1".repeat(26) + "ab");
        Desk.rules(y, false, "a uvwxyz=4");
        Desk.due("of rules with three cells", y.back(0), 27 * 18 + 26);
        Desk.due("the last of them", y.heard(27 * 18 + 25), 'z');
    }

    private static void refusesOtherBlocks() {
        Desk.sentence("Promise 9", "IndexOutOfBoundsException: there is none.");
        DotBook x = new DotBook(20, 10);
        Desk.due("no block", Desk.outcome(() -> x.back(0)), OUT);
        Desk.block(x, Desk.PARAGRAPH, "a");
        Desk.block(x, Desk.BREAK, "");
        int[] none = {LEAST, -1, 2, 11, 12, 13, GREATEST};
        for (int b : none) {
            Desk.due("block " + b, Desk.outcome(() -> x.back(b)), OUT);
        }
        x.clear();
        Desk.due("behind clear", Desk.outcome(() -> x.back(0)), OUT);
    }

    private static void refusalsKeepWhatIsHeard() {
        Desk.sentence("Promise 9", "IndexOutOfBoundsException: there is none.", "the text that is heard stays");
        DotBook x = new DotBook(20, 10);
        Desk.block(x, Desk.PARAGRAPH, "ab");
        x.back(0);
        Desk.due("refused", Desk.outcome(() -> x.back(1)), OUT);
        Desk.due("refused", Desk.outcome(() -> x.back(-1)), OUT);
        Desk.due("heard", "" + x.heard(0) + x.heard(1) + x.heard(2), "ab ");
    }

    private static void isEmptyAtFirst() {
        Desk.sentence("Promise 10", "at first it is empty");
        DotBook x = new DotBook(20, 10);
        Desk.due("a new object", x.heard(0), ' ');
        Desk.block(x, Desk.PARAGRAPH, "ab");
        Desk.due("a block alone", x.heard(0), ' ');
        Desk.due("a refused call", Desk.outcome(() -> x.back(1)) + x.heard(0), OUT + " ");
    }

    private static void isASpaceWhereThereIsNone() {
        Desk.sentence("Promise 10", "a space when there is none");
        DotBook x = new DotBook(20, 10);
        Desk.block(x, Desk.PARAGRAPH, "abc");
        x.back(0);
        Desk.due("the first", x.heard(0), 'a');
        Desk.due("the last", x.heard(2), 'c');
        int[] none = {LEAST, -1, 3, 4, 79, 80, 1199, 1200, 1201, GREATEST};
        for (int i : none) {
            Desk.due("character " + i, x.heard(i), ' ');
        }
    }

    private static void forgetsTheTextBefore() {
        Desk.sentence("Promise 10", "Character i of the text that is heard", "of the latest call");
        DotBook x = new DotBook(20, 10);
        Desk.block(x, Desk.PARAGRAPH, "abc");
        Desk.block(x, Desk.PARAGRAPH, "d");
        Desk.block(x, Desk.BREAK, "");
        x.back(0);
        x.back(1);
        Desk.due("of the shorter one", "" + x.heard(0) + x.heard(1) + x.heard(2), "d  ");
        x.back(2);
        Desk.due("of the empty one", x.heard(0), ' ');
        x.back(0);
        x.clear();
        Desk.block(x, Desk.PARAGRAPH, "efg");
        x.wipe();
        Desk.rules(x, false, "a ab=1");
        Desk.due("other calls leave it alone", "" + x.heard(0) + x.heard(1) + x.heard(2), "abc");
    }
}
