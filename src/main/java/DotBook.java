/**
 * Writes books in cells of raised dots. Every row is made by the constructors and used again, so that no call
 * makes an object, however many calls a run has.
 */
public final class DotBook {
    private static final int LEAST_WIDTH = 10;
    private static final int MOST_WIDTH = 40;
    private static final int LEAST_HEIGHT = 4;
    private static final int MOST_HEIGHT = 20;

    private static final int MOST_TYPED = 80;
    private static final char LEAST_TYPED = 32;
    private static final char GREATEST_TYPED = 126;

    private static final int MOST_RULES = 24;
    private static final int LEAST_RULE_LETTERS = 2;
    private static final int MOST_RULE_LETTERS = 6;
    private static final int MOST_RULE_CELLS = 3;

    private static final int MOST_BLOCKS = 12;
    // Two capital letters with a rule of three cells give five cells, and no text gives more for its length.
    private static final int MOST_CELLS = MOST_TYPED * 5 / 2;
    private static final int MOST_HEARD = MOST_CELLS * MOST_RULE_LETTERS;

    private static final int PARAGRAPH = 0;
    private static final int HEADING = 1;
    private static final int ITEM = 2;
    private static final int BREAK = 3;

    private static final int BLANK = 0;
    private static final int CAPITAL = 32;
    private static final int NUMBER = 60;
    private static final int LETTER = 48;

    private static final int CELL_KINDS = 64;
    private static final int LINES_OF_PLACE = 32;
    private static final int NONE = -1;

    private final Typed typed;
    private final RuleList ruleList;
    private final Translator translator;
    private final Reader reader;
    private final Book book;

    public DotBook(int width, int height) {
        typed = new Typed();
        ruleList = new RuleList();
        translator = new Translator(typed, ruleList);
        reader = new Reader(ruleList);
        book = new Book(
            Math.max(LEAST_WIDTH, Math.min(MOST_WIDTH, width)),
            Math.max(LEAST_HEIGHT, Math.min(MOST_HEIGHT, height)));
    }

    public int type(char c) throws IllegalArgumentException, IllegalStateException {
        if (c < LEAST_TYPED || c > GREATEST_TYPED) {
            throw new IllegalArgumentException();
        }
        if (typed.count >= MOST_TYPED) {
            throw new IllegalStateException();
        }
        typed.put(c);
        return typed.count;
    }

    public void wipe() {
        typed.count = 0;
    }

    public int rules(boolean lenient) throws IllegalArgumentException {
        if (!ruleList.take(typed, lenient)) {
            throw new IllegalArgumentException();
        }
        typed.count = 0;
        return ruleList.count;
    }

    public int wrong() {
        return ruleList.firstWrong;
    }

    public int block(int kind) throws IllegalArgumentException, IllegalStateException {
        if (kind < PARAGRAPH || kind > BREAK || !typed.canBeTranslated()) {
            throw new IllegalArgumentException();
        }
        if (book.count >= MOST_BLOCKS) {
            throw new IllegalStateException();
        }
        Block next = book.blocks[book.count];
        next.begin(kind);
        if (kind != BREAK) {
            translator.translateInto(next);
        }
        book.layOut(next);
        book.count++;
        typed.count = 0;
        return book.count;
    }

    public int size(int b) throws IndexOutOfBoundsException {
        if (b < 0 || b >= book.count) {
            throw new IndexOutOfBoundsException();
        }
        return book.blocks[b].count;
    }

    public int cell(int b, int i) throws IndexOutOfBoundsException {
        if (b < 0 || b >= book.count || i < 0 || i >= book.blocks[b].count) {
            throw new IndexOutOfBoundsException();
        }
        return book.blocks[b].cells[i];
    }

    public int back(int b) throws IndexOutOfBoundsException {
        if (b < 0 || b >= book.count) {
            throw new IndexOutOfBoundsException();
        }
        reader.readBlock(book.blocks[b]);
        return reader.count;
    }

    public char heard(int i) {
        return i >= 0 && i < reader.count ? reader.row[i] : ' ';
    }

    public int pages() {
        return book.lastPage;
    }

    public int at(int page, int line, int place) throws IndexOutOfBoundsException {
        if (page < 1 || page > book.lastPage || line < 0 || line >= book.height || place < 0 || place >= book.width) {
            throw new IndexOutOfBoundsException();
        }
        return line == book.textLines ? book.cellOfNumber(page, place) : book.cellOfText(page, line, place);
    }

    public int where(int b) throws IndexOutOfBoundsException {
        if (b < 0 || b >= book.count) {
            throw new IndexOutOfBoundsException();
        }
        Block asked = book.blocks[b];
        return asked.lineCount > 0 ? asked.page * LINES_OF_PLACE + asked.line : NONE;
    }

    public int heading(int i) {
        int before = 0;
        for (int b = 0; b < book.count; b++) {
            if (book.blocks[b].kind == HEADING && book.blocks[b].lineCount > 0) {
                if (before == i) {
                    return b;
                }
                before++;
            }
        }
        return NONE;
    }

    public void clear() {
        book.empty();
    }

    /** What the characters and the cells mean. */
    private static final class Code {
        private static final int[] LETTER_CELLS = {
            1, 3, 9, 25, 17, 11, 27, 19, 10, 26, 5, 7, 13, 29, 21, 15, 31, 23, 14, 30, 37, 39, 58, 45, 61, 53
        };
        private static final String MARKS = ".,;:?!-'";
        private static final int[] MARK_CELLS = {50, 2, 6, 18, 38, 22, 36, 4};
        private static final int DIGITS = 10;
        private static final char UNKNOWN = '#';

        static boolean isSmall(char c) {
            return c >= 'a' && c <= 'z';
        }

        static boolean isCapital(char c) {
            return c >= 'A' && c <= 'Z';
        }

        static boolean isLetter(char c) {
            return isSmall(c) || isCapital(c);
        }

        static boolean isDigit(char c) {
            return c >= '0' && c <= '9';
        }

        static boolean looksLikeDigit(char c) {
            return c >= 'a' && c <= 'j';
        }

        static boolean hasCell(char c) {
            return c == ' ' || isLetter(c) || isDigit(c) || MARKS.indexOf(c) >= 0;
        }

        static char toSmall(char c) {
            return c >= 'A' && c <= 'Z' ? (char) (c - 'A' + 'a') : c;
        }

        static char toCapital(char c) {
            return c >= 'a' && c <= 'z' ? (char) (c - 'a' + 'A') : c;
        }

        static int cellOf(char c) {
            if (isLetter(c)) {
                return LETTER_CELLS[toSmall(c) - 'a'];
            }
            if (isDigit(c)) {
                return c == '0' ? LETTER_CELLS[DIGITS - 1] : LETTER_CELLS[c - '1'];
            }
            int mark = MARKS.indexOf(c);
            return mark >= 0 && mark < MARK_CELLS.length ? MARK_CELLS[mark] : BLANK;
        }

        static char digitOf(int cell) {
            for (int i = 0; i < DIGITS; i++) {
                if (LETTER_CELLS[i] == cell) {
                    return (char) ('0' + (i + 1) % DIGITS);
                }
            }
            return UNKNOWN;
        }

        static char characterOf(int cell) {
            for (int i = 0; i < LETTER_CELLS.length; i++) {
                if (LETTER_CELLS[i] == cell) {
                    return (char) ('a' + i);
                }
            }
            for (int i = 0; i < MARK_CELLS.length; i++) {
                if (MARK_CELLS[i] == cell) {
                    return MARKS.charAt(i);
                }
            }
            return UNKNOWN;
        }
    }

    /** The characters that are typed. */
    private static final class Typed {
        // A character that no text has, so that a look past either end finds nothing that counts.
        private static final char NOTHING = 0;

        private final char[] row = new char[MOST_TYPED];
        private int count;

        void put(char c) {
            if (count < row.length) {
                row[count] = c;
                count++;
            }
        }

        char characterAt(int i) {
            return i >= 0 && i < count ? row[i] : NOTHING;
        }

        boolean canBeTranslated() {
            for (int i = 0; i < count; i++) {
                if (!Code.hasCell(row[i])) {
                    return false;
                }
            }
            return true;
        }
    }

    /** Some letters of a word at some places of it, and the cells that stand for them. */
    private static final class Rule {
        private static final String KINDS = "wbmea";
        private static final int WHOLE = 0;
        private static final int BEGIN = 1;
        private static final int MIDDLE = 2;
        private static final int END = 3;

        private int kind;
        private final char[] letters = new char[MOST_RULE_LETTERS];
        private int letterCount;
        private final int[] cells = new int[MOST_RULE_CELLS];
        private int cellCount;

        /** Whether the characters from .. to - 1 are a rule's text; if not, what this rule holds is of no use. */
        boolean readFrom(Typed text, int from, int to) {
            kind = KINDS.indexOf(text.characterAt(from));
            if (kind < 0 || text.characterAt(from + 1) != ' ') {
                return false;
            }
            readLetters(text, from + 2);
            int behind = from + 2 + letterCount;
            return letterCount >= LEAST_RULE_LETTERS
                && text.characterAt(behind) == '='
                && readCells(text, behind + 1, to);
        }

        private void readLetters(Typed text, int from) {
            letterCount = 0;
            for (int i = 0; i < MOST_RULE_LETTERS && Code.isSmall(text.characterAt(from + i)); i++) {
                letters[i] = text.characterAt(from + i);
                letterCount++;
            }
        }

        private boolean readCells(Typed text, int from, int to) {
            cellCount = 0;
            int dots = 0;
            for (int i = from; i < to; i++) {
                char c = text.characterAt(i);
                if (c == '-') {
                    if (!putCell(dots)) {
                        return false;
                    }
                    dots = 0;
                } else {
                    int dot = c >= '1' && c <= '6' ? 1 << (c - '1') : 0;
                    // The dots grow just if each is more than the sum of those before it.
                    if (dot <= dots) {
                        return false;
                    }
                    dots += dot;
                }
            }
            return putCell(dots);
        }

        private boolean putCell(int dots) {
            if (dots == BLANK || cellCount >= MOST_RULE_CELLS) {
                return false;
            }
            cells[cellCount] = dots;
            cellCount++;
            return true;
        }

        boolean isLike(Rule other) {
            if (kind != other.kind || letterCount != other.letterCount) {
                return false;
            }
            for (int i = 0; i < letterCount; i++) {
                if (letters[i] != other.letters[i]) {
                    return false;
                }
            }
            return true;
        }

        boolean applies(boolean first, boolean last) {
            switch (kind) {
                case WHOLE:
                    return first && last;
                case BEGIN:
                    return first && !last;
                case MIDDLE:
                    return !first && !last;
                case END:
                    return !first && last;
                default:
                    return true;
            }
        }

        boolean hasLettersAt(Typed text, int place, boolean anyCase) {
            for (int i = 0; i < letterCount; i++) {
                char c = text.characterAt(place + i);
                boolean freeCase = anyCase || i == 0;
                if ((freeCase ? Code.toSmall(c) : c) != letters[i]) {
                    return false;
                }
            }
            return true;
        }

        boolean hasCellsAt(Block block, int place) {
            for (int i = 0; i < cellCount; i++) {
                if (block.cellAt(place + i) != cells[i]) {
                    return false;
                }
            }
            return true;
        }
    }

    /** The rules, in the order in which they were taken. */
    private static final class RuleList {
        private final Rule[] row = new Rule[MOST_RULES];
        private int count;
        private int firstWrong = NONE;

        RuleList() {
            for (int i = 0; i < row.length; i++) {
                row[i] = new Rule();
            }
        }

        /** Whether the texts were taken; if not, the rules are those from before. */
        boolean take(Typed text, boolean lenient) {
            int countBefore = count;
            int from = 0;
            int number = 0;
            firstWrong = NONE;
            for (int i = 0; i <= text.count; i++) {
                if (i == text.count || text.characterAt(i) == ';') {
                    if (!takeOne(text, from, i) && firstWrong == NONE) {
                        firstWrong = number;
                    }
                    from = i + 1;
                    number++;
                }
            }
            if (firstWrong == NONE || lenient) {
                return true;
            }
            count = countBefore;
            return false;
        }

        private boolean takeOne(Typed text, int from, int to) {
            if (count >= row.length) {
                return false;
            }
            Rule next = row[count];
            if (!next.readFrom(text, from, to) || hasLike(next)) {
                return false;
            }
            count++;
            return true;
        }

        private boolean hasLike(Rule rule) {
            for (int i = 0; i < count; i++) {
                if (row[i].isLike(rule)) {
                    return true;
                }
            }
            return false;
        }
    }

    /** Turns what is typed into the cells of a block. */
    private static final class Translator {
        private final Typed text;
        private final RuleList known;
        private int wordBegin;
        private int wordEnd;
        private boolean wordIsCapital;

        Translator(Typed text, RuleList known) {
            this.text = text;
            this.known = known;
        }

        void translateInto(Block block) {
            for (int i = 0; i < text.count; i++) {
                if (!Code.isLetter(text.characterAt(i))) {
                    putSingle(block, i);
                } else if (!Code.isLetter(text.characterAt(i - 1))) {
                    findWord(i);
                    putWord(block);
                }
            }
        }

        private void putSingle(Block block, int place) {
            char c = text.characterAt(place);
            boolean digit = Code.isDigit(c);
            if (digit && !Code.isDigit(text.characterAt(place - 1))) {
                block.put(NUMBER, place);
            }
            block.put(Code.cellOf(c), place);
            if (digit && Code.looksLikeDigit(text.characterAt(place + 1))) {
                block.put(LETTER, place + 1);
            }
        }

        private void findWord(int begin) {
            boolean allCapital = true;
            int end = begin;
            for (int i = begin; i < text.count && Code.isLetter(text.characterAt(i)); i++) {
                allCapital = allCapital && Code.isCapital(text.characterAt(i));
                end = i + 1;
            }
            wordBegin = begin;
            wordEnd = end;
            wordIsCapital = allCapital && end - begin >= 2;
        }

        private void putWord(Block block) {
            if (wordIsCapital) {
                block.put(CAPITAL, wordBegin);
                block.put(CAPITAL, wordBegin);
            }
            int next = wordBegin;
            for (int i = wordBegin; i < wordEnd; i++) {
                if (i == next) {
                    next = i + putLettersAt(block, i);
                }
            }
        }

        /** How many letters it has gone over. */
        private int putLettersAt(Block block, int place) {
            char c = text.characterAt(place);
            if (!wordIsCapital && Code.isCapital(c)) {
                block.put(CAPITAL, place);
            }
            Rule used = ruleAt(place);
            if (used == null) {
                block.put(Code.cellOf(c), place);
                return 1;
            }
            for (int i = 0; i < used.cellCount; i++) {
                block.put(used.cells[i], place);
            }
            return used.letterCount;
        }

        private Rule ruleAt(int place) {
            Rule best = null;
            for (int i = 0; i < known.count; i++) {
                Rule rule = known.row[i];
                if (rule.hasLettersAt(text, place, wordIsCapital)
                    && rule.applies(place == wordBegin, place + rule.letterCount == wordEnd)
                    && (best == null || isBetter(rule, best))) {
                    best = rule;
                }
            }
            return best;
        }

        private static boolean isBetter(Rule rule, Rule than) {
            return rule.letterCount > than.letterCount
                || rule.letterCount == than.letterCount && rule.kind < than.kind;
        }
    }

    /** Turns the cells of a block into the text that is heard. */
    private static final class Reader {
        private final RuleList known;
        private final char[] row = new char[MOST_HEARD];
        private int count;
        private int pieceBegin;
        private int pieceEnd;
        private boolean inNumber;
        private boolean nextIsCapital;
        private boolean restIsCapital;

        Reader(RuleList known) {
            this.known = known;
        }

        void readBlock(Block block) {
            count = 0;
            for (int i = 0; i < block.count; i++) {
                if (block.cellAt(i) == BLANK) {
                    put(' ');
                } else if (block.cellAt(i - 1) == BLANK) {
                    readPiece(block, i);
                }
            }
        }

        private void readPiece(Block block, int from) {
            pieceBegin = from + capitalSignsAt(block, from);
            pieceEnd = block.endOfPiece(from);
            inNumber = false;
            nextIsCapital = false;
            restIsCapital = false;
            int next = from;
            for (int i = from; i < pieceEnd; i++) {
                if (i == next) {
                    next = i + readCellsAt(block, i);
                }
            }
        }

        /** How many cells it has gone over. */
        private int readCellsAt(Block block, int place) {
            int first = block.cellAt(place);
            if (inNumber && Code.digitOf(first) != Code.UNKNOWN) {
                put(Code.digitOf(first));
                return 1;
            }
            inNumber = first == NUMBER;
            if (first == NUMBER || first == LETTER) {
                return 1;
            }
            if (first == CAPITAL) {
                return passCapitalSigns(block, place);
            }
            Rule used = ruleAt(block, place);
            if (used == null) {
                putInCase(Code.characterOf(first));
                return 1;
            }
            for (int i = 0; i < used.letterCount; i++) {
                putInCase(used.letters[i]);
            }
            return used.cellCount;
        }

        private int passCapitalSigns(Block block, int place) {
            int signs = capitalSignsAt(block, place);
            if (signs == 1) {
                nextIsCapital = true;
            } else {
                restIsCapital = true;
            }
            return signs;
        }

        private static int capitalSignsAt(Block block, int place) {
            int signs = 0;
            for (int i = place; i < block.count && block.cellAt(i) == CAPITAL; i++) {
                signs++;
            }
            return signs;
        }

        private Rule ruleAt(Block block, int place) {
            Rule best = null;
            for (int i = 0; i < known.count; i++) {
                Rule rule = known.row[i];
                if (rule.hasCellsAt(block, place)
                    && rule.applies(place == pieceBegin, place + rule.cellCount == pieceEnd)
                    && (best == null || isBetter(rule, best))) {
                    best = rule;
                }
            }
            return best;
        }

        private static boolean isBetter(Rule rule, Rule than) {
            return rule.cellCount > than.cellCount
                || rule.cellCount == than.cellCount && rule.kind < than.kind;
        }

        private void putInCase(char c) {
            put(nextIsCapital || restIsCapital ? Code.toCapital(c) : c);
            // A mark does not use up the sign: it is for the next letter.
            if (Code.isSmall(c)) {
                nextIsCapital = false;
            }
        }

        private void put(char c) {
            if (count < row.length) {
                row[count] = c;
                count++;
            }
        }
    }

    /** The cells of a block, and the lines that they are put into. */
    private static final class Block {
        private static final int PARAGRAPH_INDENT = 2;
        private static final int ITEM_INDENT = 4;

        private int kind;
        private final int[] cells = new int[MOST_CELLS];
        private int count;
        // The cells of all lines, one line behind the other. Each line has a cell at least, and no cell is
        // there that the block has not, so that both rows suffice.
        private final int[] laid = new int[MOST_CELLS];
        private int laidCount;
        private final int[] lineBegins = new int[MOST_CELLS];
        private int lineCount;
        private int page;
        private int line;

        void begin(int newKind) {
            kind = newKind;
            count = 0;
        }

        void put(int dots, int origin) {
            if (count < cells.length) {
                cells[count] = dots + CELL_KINDS * origin;
                count++;
            }
        }

        /** The dots alone; blank outside of the block, so that its ends end a piece. */
        int cellAt(int i) {
            return i >= 0 && i < count ? cells[i] % CELL_KINDS : BLANK;
        }

        int endOfPiece(int from) {
            int end = from;
            for (int i = from; i < count && cellAt(i) != BLANK; i++) {
                end = i + 1;
            }
            return end;
        }

        void cutIntoLines(int width) {
            laidCount = 0;
            lineCount = 0;
            for (int i = 0; i < count; i++) {
                if (cellAt(i) != BLANK && cellAt(i - 1) == BLANK) {
                    layPiece(i, endOfPiece(i), width);
                }
            }
        }

        private void layPiece(int from, int to, int width) {
            boolean behind = lineCount > 0 && roomLeft(width) >= 1 + to - from;
            if (behind) {
                layCell(BLANK);
            } else {
                beginLine();
            }
            for (int i = from; i < to; i++) {
                if (roomLeft(width) <= 0) {
                    beginLine();
                }
                layCell(cellAt(i));
            }
        }

        private int roomLeft(int width) {
            int latest = lineCount - 1;
            return width - indentOf(latest) - lengthOf(latest);
        }

        private void beginLine() {
            if (lineCount < lineBegins.length) {
                lineBegins[lineCount] = laidCount;
                lineCount++;
            }
        }

        private void layCell(int dots) {
            if (laidCount < laid.length) {
                laid[laidCount] = dots;
                laidCount++;
            }
        }

        private int indentOf(int n) {
            if (kind == PARAGRAPH) {
                return n == 0 ? PARAGRAPH_INDENT : 0;
            }
            return kind == ITEM && n > 0 ? ITEM_INDENT : 0;
        }

        private int lengthOf(int n) {
            if (n < 0 || n >= lineCount) {
                return 0;
            }
            int end = n + 1 < lineCount ? lineBegins[n + 1] : laidCount;
            return end - lineBegins[n];
        }

        int cellOfLine(int n, int place, int width) {
            int length = lengthOf(n);
            int i = place - (kind == HEADING ? (width - length) / 2 : indentOf(n));
            return i >= 0 && i < length ? laid[lineBegins[n] + i] : BLANK;
        }
    }

    /** The blocks, and the place on the pages behind the last of them. */
    private static final class Book {
        private final int width;
        private final int height;
        private final int textLines;
        private final Block[] blocks = new Block[MOST_BLOCKS];
        private int count;
        private int page = 1;
        private int usedLines;
        private int lastPage = 1;

        Book(int width, int height) {
            this.width = width;
            this.height = height;
            textLines = height - 1;
            for (int i = 0; i < blocks.length; i++) {
                blocks[i] = new Block();
            }
        }

        void empty() {
            count = 0;
            page = 1;
            usedLines = 0;
            lastPage = 1;
        }

        /** What comes later never moves a block, so each is laid out once, behind those before it. */
        void layOut(Block block) {
            block.cutIntoLines(width);
            if (block.kind == BREAK && usedLines > 0) {
                turnPage();
            }
            if (block.kind == HEADING && block.lineCount > 0) {
                makeWayForHeading(block.lineCount);
            }
            for (int n = 0; n < block.lineCount; n++) {
                if (usedLines >= textLines) {
                    turnPage();
                }
                if (n == 0) {
                    block.page = page;
                    block.line = usedLines;
                }
                usedLines++;
                // A turned page counts only when a line is on it: a break at the end makes no page.
                lastPage = page;
            }
        }

        private void makeWayForHeading(int lines) {
            if (usedLines == 0) {
                return;
            }
            int roomBehindEmptyLine = textLines - usedLines - 1;
            if (roomBehindEmptyLine < lines + 1) {
                turnPage();
            } else {
                usedLines++;
            }
        }

        private void turnPage() {
            page++;
            usedLines = 0;
        }

        int cellOfText(int askedPage, int askedLine, int place) {
            for (int b = 0; b < count; b++) {
                Block block = blocks[b];
                // A block's lines have no gap from its first one on, but for the lines with page numbers.
                int n = (askedPage - block.page) * textLines + askedLine - block.line;
                if (n >= 0 && n < block.lineCount) {
                    return block.cellOfLine(n, place, width);
                }
            }
            return BLANK;
        }

        int cellOfNumber(int askedPage, int place) {
            int rest = askedPage;
            int restBefore = askedPage;
            for (int i = width - 1; i > place; i--) {
                restBefore = rest;
                rest = rest / 10;
            }
            if (rest > 0) {
                return Code.cellOf((char) ('0' + rest % 10));
            }
            return restBefore > 0 ? NUMBER : BLANK;
        }
    }
}
