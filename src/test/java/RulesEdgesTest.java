/** The edges of promises 4 (rules) and 5 (wrong), and of what a rule's text is: each sentence has a test of its own. */
public final class RulesEdgesTest {
    private static final String REFUSED = "IllegalArgumentException";

    public static void main(String[] args) {
        Desk.run(
            RulesEdgesTest::takesTwentyFour,
            RulesEdgesTest::hasTwoToSixLetters,
            RulesEdgesTest::hasSmallLetters,
            RulesEdgesTest::hasOneToThreeCells,
            RulesEdgesTest::beginsWithItsKind,
            RulesEdgesTest::hasOneSpace,
            RulesEdgesTest::hasOneEqualsSign,
            RulesEdgesTest::hasHyphensBetweenCells,
            RulesEdgesTest::hasDotsOneToSix,
            RulesEdgesTest::hasGrowingDots,
            RulesEdgesTest::hasADotAtLeast,
            RulesEdgesTest::isWrongWhenThereIsOneLikeIt,
            RulesEdgesTest::isWrongWhenThereAreTwentyFour,
            RulesEdgesTest::hasOneTextMoreThanSemicolons,
            RulesEdgesTest::takesEmptyTextsForWrong,
            RulesEdgesTest::countsEachForTheNext,
            RulesEdgesTest::takesThemInTheirOrder,
            RulesEdgesTest::answersHowManyThereAre,
            RulesEdgesTest::leavesOutWrongOnes,
            RulesEdgesTest::wipesWhatWasTaken,
            RulesEdgesTest::refusesWhenOneIsWrong,
            RulesEdgesTest::takesNoneThen,
            RulesEdgesTest::keepsWhatIsTypedThen,
            RulesEdgesTest::keepsEarlierRulesThen,
            RulesEdgesTest::tellsTheFirstWrongOne,
            RulesEdgesTest::tellsOfTheLatestCall,
            RulesEdgesTest::tellsWhenNoneWasWrong,
            RulesEdgesTest::tellsWhenThereWasNoCall);
    }

    private static void isRight(String text) {
        DotBook x = new DotBook(20, 10);
        Desk.due("[" + text + "]", Desk.rules(x, false, text), 1);
        Desk.due("wrong() of [" + text + "]", x.wrong(), -1);
    }

    private static void isWrong(String text) {
        DotBook x = new DotBook(20, 10);
        Desk.due("[" + text + "]", Desk.rules(x, false, text), REFUSED);
        Desk.due("wrong() of [" + text + "]", x.wrong(), 0);
        Desk.due("[" + text + "], lenient", x.rules(true), 0);
        Desk.due("wrong() of [" + text + "], lenient", x.wrong(), 0);
    }

    /** Rules for the letters aa, ab, .., each with the cell 8. */
    private static DotBook withManyRules(int count) {
        DotBook x = new DotBook(20, 10);
        for (int i = 0; i < count; i++) {
            Desk.rules(x, false, "a a" + (char) ('a' + i) + "=4");
        }
        return x;
    }

    /** The cells that a text gives by the rules that there are. */
    private static String cellsOf(DotBook x, String text) {
        x.clear();
        Desk.block(x, Desk.PARAGRAPH, text);
        return Desk.cells(x, 0);
    }

    private static void takesTwentyFour() {
        Desk.sentence("Terms, for promise 4", "RULES 0, 1, .., at most 24");
        DotBook x = withManyRules(23);
        Desk.due("the 24th", Desk.rules(x, false, "a zz=5"), 24);
        Desk.due("is in use, as the first one is", cellsOf(x, "zzaa"), "16 8");
    }

    private static void hasTwoToSixLetters() {
        Desk.sentence("Terms, for promise 4", "2 .. 6 small letters");
        isWrong("a =1");
        isWrong("a a=1");
        isRight("a ab=1");
        isRight("a abcdef=1");
        isWrong("a abcdefg=1");
        isWrong("a abcdefghijkl=1");
    }

    private static void hasSmallLetters() {
        Desk.sentence("Terms, for promise 4", "small letters");
        isRight("a az=1");
        isRight("a za=1");
        isWrong("a Ab=1");
        isWrong("a aB=1");
        isWrong("a a`=1");
        isWrong("a a{=1");
        isWrong("a a1=1");
        isWrong("a a'b=1");
        isWrong("a a b=1");
    }

    private static void hasOneToThreeCells() {
        Desk.sentence("Terms, for promise 4", "1 .. 3 cells");
        isWrong("a ab=");
        isWrong("a ab");
        isRight("a ab=1");
        isRight("a ab=1-1");
        isRight("a ab=1-1-1");
        isWrong("a ab=1-1-1-1");
        DotBook x = Desk.withRules(20, 10, "a ab=1-12-123456");
        Desk.due("three cells in use", cellsOf(x, "ab"), "1 3 63");
    }

    private static void beginsWithItsKind() {
        Desk.sentence("Terms, for promise 4", "one of the characters w, b, m, e, a (for the kinds 0 .. 4)");
        DotBook x = Desk.withRules(20, 10, "w xy=1;b xy=2;m xy=3;e xy=4");
        Desk.due("w, b, m, e by their places", cellsOf(x, "xy xyxyxy"), "1 0 2 4 8");
        isRight("a xy=1");
        isWrong("c xy=1");
        isWrong("W xy=1");
        isWrong("A xy=1");
        isWrong("0 xy=1");
        isWrong("  xy=1");
        isWrong(" xy=1");
        isWrong("wb xy=1");
        isWrong("xy=1");
    }

    private static void hasOneSpace() {
        Desk.sentence("Terms, for promise 4", "a space, the letters");
        isRight("a xy=1");
        isWrong("axy=1");
        isWrong("a  xy=1");
        isWrong("a-xy=1");
        isWrong(" a xy=1");
        isWrong("a xy =1");
        isWrong("a xy= 1");
        isWrong("a xy=1 ");
        isWrong("a xy=1 -2");
    }

    private static void hasOneEqualsSign() {
        Desk.sentence("Terms, for promise 4", "the letters, the character =, and the cells");
        isWrong("a xy1");
        isWrong("a xy-1");
        isWrong("a xy:1");
        isWrong("a xy==1");
        isWrong("a xy=1=");
        isWrong("a xy=1=2");
    }

    private static void hasHyphensBetweenCells() {
        Desk.sentence("Terms, for promise 4", "the cells, with - between them");
        isRight("a xy=1-2");
        isWrong("a xy=-1");
        isWrong("a xy=1-");
        isWrong("a xy=1-2-");
        isWrong("a xy=1-2-3-");
        isWrong("a xy=1--2");
        isWrong("a xy=-");
        isWrong("a xy=1,2");
        isWrong("a xy=1 2");
    }

    private static void hasDotsOneToSix() {
        Desk.sentence("Terms, for promise 4", "each the digits of its dots");
        for (int dot = 1; dot <= 6; dot++) {
            DotBook x = Desk.withRules(20, 10, "a xy=" + dot);
            Desk.due("dot " + dot, cellsOf(x, "xy"), 1 << (dot - 1));
        }
        isWrong("a xy=0");
        isWrong("a xy=7");
        isWrong("a xy=8");
        isWrong("a xy=9");
        isWrong("a xy=01");
        isWrong("a xy=67");
        isWrong("a xy=1-7");
        isWrong("a xy=/");
        isWrong("a xy=a");
    }

    private static void hasGrowingDots() {
        Desk.sentence("Terms, for promise 4", "growing");
        isRight("a xy=123456");
        isRight("a xy=16");
        isRight("a xy=6-1");
        isWrong("a xy=11");
        isWrong("a xy=66");
        isWrong("a xy=21");
        isWrong("a xy=65");
        isWrong("a xy=1243");
        isWrong("a xy=1341");
        isWrong("a xy=1-21");
        isWrong("a xy=1-1-33");
    }

    private static void hasADotAtLeast() {
        Desk.sentence("Terms, for promise 4", "one at least");
        isWrong("a xy=");
        isWrong("a xy=1-");
        isWrong("a xy=-1");
        isWrong("a xy=1--1");
    }

    private static void isWrongWhenThereIsOneLikeIt() {
        Desk.sentence("Terms, for promise 4", "if there is a rule of the same kind with the same letters");
        DotBook x = Desk.withRules(20, 10, "m xyz=1");
        Desk.due("same cells", Desk.rules(x, true, "m xyz=1"), 1);
        Desk.due("wrong()", x.wrong(), 0);
        Desk.due("other cells", Desk.rules(x, true, "m xyz=2"), 1);
        Desk.due("wrong()", x.wrong(), 0);
        Desk.due("other kinds", Desk.rules(x, true, "w xyz=1;b xyz=1;e xyz=1;a xyz=1"), 5);
        Desk.due("less letters", Desk.rules(x, true, "m xy=1"), 6);
        Desk.due("more letters", Desk.rules(x, true, "m xyzx=1"), 7);
        Desk.due("another first one", Desk.rules(x, true, "m yyz=1"), 8);
        Desk.due("another last one", Desk.rules(x, true, "m xyy=1"), 9);
        Desk.due("wrong()", x.wrong(), -1);
        Desk.due("six letters, twice", Desk.rules(x, true, "a abcdef=1;a abcdef=2"), 10);
        Desk.due("wrong()", x.wrong(), 1);
        Desk.due("behind a longer one that was wrong", Desk.rules(x, true, "m xyzxyz=7;m xyz=1"), 10);
    }

    private static void isWrongWhenThereAreTwentyFour() {
        Desk.sentence("Terms, for promise 4", "or there are 24 rules");
        DotBook x = withManyRules(24);
        Desk.due("the 25th", Desk.rules(x, false, "a zz=1"), REFUSED);
        Desk.due("wrong()", x.wrong(), 0);
        Desk.due("the 25th, lenient", x.rules(true), 24);
        Desk.due("wrong(), lenient", x.wrong(), 0);
        Desk.due("it is not in use, the 24th is", cellsOf(x, "zzax"), "53 53 8");
    }

    private static void hasOneTextMoreThanSemicolons() {
        Desk.sentence("Promise 4", "with ; between them (one more than there are ;");
        DotBook x = new DotBook(20, 10);
        Desk.due("no ;", Desk.rules(x, false, "a ab=1"), 1);
        Desk.due("two ;", Desk.rules(x, false, "a bc=1;a cd=1;a de=1"), 4);
        Desk.due("one ; at the end", Desk.rules(x, true, "a ef=1;"), 5);
        Desk.due("the text behind it is wrong", x.wrong(), 1);
        Desk.due("one ; at the beginning", Desk.rules(x, true, ";a fg=1"), 6);
        Desk.due("the text before it is wrong", x.wrong(), 0);
        Desk.due("80 characters", Desk.rules(x, true, "a gh=1" + ";".repeat(67) + "a gh=12"), 7);
        Desk.due("the second is wrong", x.wrong(), 1);
    }

    private static void takesEmptyTextsForWrong() {
        Desk.sentence("Promise 4", "empty ones, which are wrong, too");
        isWrong("");
        isWrong(";");
        isWrong(";".repeat(80));
        DotBook x = new DotBook(20, 10);
        Desk.due("an empty one between", Desk.rules(x, false, "a ab=1;;a bc=1"), REFUSED);
        Desk.due("wrong()", x.wrong(), 1);
    }

    private static void countsEachForTheNext() {
        Desk.sentence("Promise 4", "each one counts for the next ones");
        DotBook x = new DotBook(20, 10);
        Desk.due("like an earlier one of the call", Desk.rules(x, false, "a ab=1;a bc=1;a ab=2"), REFUSED);
        Desk.due("wrong()", x.wrong(), 2);
        Desk.due("lenient", x.rules(true), 2);
        Desk.due("the earlier one is in use", cellsOf(x, "ab"), "1");
        DotBook y = withManyRules(22);
        Desk.due("three, where two have room", Desk.rules(y, false, "a xx=1;a yy=1;a zz=1"), REFUSED);
        Desk.due("wrong()", y.wrong(), 2);
        Desk.due("three, where two have room, lenient", y.rules(true), 24);
        DotBook z = new DotBook(20, 10);
        Desk.due("like an earlier one that was wrong", Desk.rules(z, true, "a ab=;a ab=2"), 1);
        Desk.due("wrong()", z.wrong(), 0);
        Desk.due("the later one is in use", cellsOf(z, "ab"), "2");
    }

    private static void takesThemInTheirOrder() {
        Desk.sentence("Promise 4", "in their order");
        DotBook x = Desk.withRules(20, 10, "a vw=4;a xy=4", "a tu=4");
        Desk.block(x, Desk.PARAGRAPH, "tu");
        Desk.due("the least number is heard", Desk.heard(x, 0), "vw");
    }

    private static void answersHowManyThereAre() {
        Desk.sentence("Promise 4", "how many rules there are then");
        DotBook x = new DotBook(20, 10);
        Desk.due("none", Desk.rules(x, true, "no"), 0);
        Desk.due("one", Desk.rules(x, true, "a ab=1"), 1);
        Desk.due("three", Desk.rules(x, false, "a bc=1;a cd=1"), 3);
        Desk.due("three still", Desk.rules(x, true, ""), 3);
    }

    private static void leavesOutWrongOnes() {
        Desk.sentence("Promise 4", "If it is lenient, those that are wrong are left out.");
        DotBook x = new DotBook(20, 10);
        Desk.due("first and last are wrong", Desk.rules(x, true, "a ab=;a bc=4;a cd=7;a de=5;a =1"), 2);
        Desk.due("the cells", cellsOf(x, "ab bc cd de"), "1 3 0 8 0 9 25 0 16");
        Desk.due("all are wrong", Desk.rules(x, true, "no;;no"), 2);
        Desk.due("none is wrong", Desk.rules(x, true, "a ab=6;a cd=56"), 4);
        Desk.due("the cells then", cellsOf(x, "ab bc cd de"), "32 0 8 0 48 0 16");
    }

    private static void wipesWhatWasTaken() {
        Desk.sentence("Promise 4", "Nothing is typed then.");
        DotBook x = new DotBook(20, 10);
        Desk.rules(x, false, "a ab=1");
        Desk.due("not lenient", x.type('a'), 1);
        Desk.rules(x, true, " cd=1");
        Desk.due("lenient", x.type('a'), 1);
        Desk.rules(x, true, " wrong");
        Desk.due("lenient, and all are wrong", x.type('a'), 1);
    }

    private static void refusesWhenOneIsWrong() {
        Desk.sentence("Promise 4", "IllegalArgumentException: it is not lenient, and one is wrong");
        String[] texts = {"no;a ab=1;a bc=1", "a ab=1;no;a bc=1", "a ab=1;a bc=1;no", "no", ""};
        for (String text : texts) {
            DotBook x = new DotBook(20, 10);
            Desk.due("[" + text + "]", Desk.rules(x, false, text), REFUSED);
            Desk.due("[" + text + "] again", Desk.outcome(() -> x.rules(false)), REFUSED);
        }
    }

    private static void takesNoneThen() {
        Desk.sentence("Promise 4", "then no rule is taken");
        DotBook x = new DotBook(20, 10);
        Desk.rules(x, false, "a ab=4;a bc=4;no;a cd=4");
        x.wipe();
        Desk.due("none is in use", cellsOf(x, "ab bc cd"), "1 3 0 3 9 0 9 25");
        Desk.due("none counts", Desk.rules(x, false, "a ab=5;a bc=5;a cd=5"), 3);
        Desk.due("the later ones are in use", cellsOf(x, "ab bc cd"), "16 0 16 0 16");
    }

    private static void keepsWhatIsTypedThen() {
        Desk.sentence("Promise 4", "and what is typed stays");
        DotBook x = new DotBook(20, 10);
        Desk.due("not all of it yet", Desk.rules(x, false, "a ab=1;a bc"), REFUSED);
        Desk.due("the rest of it", Desk.rules(x, false, "=2"), 2);
        Desk.due("both are in use", cellsOf(x, "ab bc"), "1 0 2");
        Desk.due("text that is no rule", Desk.rules(x, false, "ab."), REFUSED);
        Desk.due("a block of it", x.block(Desk.PARAGRAPH), 2);
        Desk.due("its cells", Desk.cells(x, 1), "1 50");
    }

    private static void keepsEarlierRulesThen() {
        Desk.sentence("Promise 4", "then no rule is taken", "and none is lost");
        DotBook x = Desk.withRules(20, 10, "a ab=4");
        Desk.due("a right one and a wrong one", Desk.rules(x, false, "b ab=5;a ab=6"), REFUSED);
        x.wipe();
        Desk.due("the earlier one is in use", cellsOf(x, "ab abc"), "8 0 8 9");
        DotBook y = withManyRules(24);
        Desk.due("behind 24", Desk.rules(y, false, "w zz=1"), REFUSED);
        y.wipe();
        Desk.due("the 24th is in use", cellsOf(y, "ax zz"), "8 0 53 53");
    }

    private static void tellsTheFirstWrongOne() {
        Desk.sentence("Promise 5", "Which one of the texts (from 0) was the first wrong one");
        DotBook x = new DotBook(20, 10);
        Desk.rules(x, true, "no;no;a ab=1");
        Desk.due("the first", x.wrong(), 0);
        Desk.rules(x, true, "a bc=1;no;no");
        Desk.due("the second", x.wrong(), 1);
        Desk.rules(x, false, "a cd=1;a de=1;no;a ef=1;no");
        Desk.due("the third, refused", x.wrong(), 2);
        x.wipe();
        Desk.rules(x, true, "a fg=1;a gh=1;a hi=1;a ij=1;a jk=1;a kl=1;a lm=1;a mn=1;a no=1;a op=1;a pq=1;");
        Desk.due("the twelfth, which is empty", x.wrong(), 11);
    }

    private static void tellsOfTheLatestCall() {
        Desk.sentence("Promise 5", "in the latest call of rules()");
        DotBook x = new DotBook(20, 10);
        Desk.rules(x, true, "a ab=1;no");
        Desk.due("lenient", x.wrong(), 1);
        Desk.rules(x, false, "no");
        Desk.due("refused", x.wrong(), 0);
        x.wipe();
        Desk.block(x, Desk.PARAGRAPH, "ab");
        x.clear();
        Desk.due("other calls behind it", x.wrong(), 0);
        Desk.rules(x, false, "a bc=1");
        Desk.due("without a wrong one", x.wrong(), -1);
    }

    private static void tellsWhenNoneWasWrong() {
        Desk.sentence("Promise 5", "-1 when none was");
        DotBook x = new DotBook(20, 10);
        Desk.rules(x, false, "a ab=1;a bc=1");
        Desk.due("not lenient", x.wrong(), -1);
        Desk.rules(x, true, "");
        Desk.rules(x, true, "a cd=1;a de=1");
        Desk.due("lenient, behind one with a wrong one", x.wrong(), -1);
    }

    private static void tellsWhenThereWasNoCall() {
        Desk.sentence("Promise 5", "or there was no such call");
        DotBook x = new DotBook(20, 10);
        Desk.due("at first", x.wrong(), -1);
        Desk.block(x, Desk.PARAGRAPH, "no rule");
        Desk.outcome(() -> x.block(4));
        Desk.due("behind other calls", x.wrong(), -1);
    }
}
