import java.util.ArrayList;
import java.util.List;
import java.util.regex.Matcher;
import java.util.regex.Pattern;

/**
 * A second program for the document, written with the library and with no care for speed: every question is answered
 * from the texts and the blocks anew. Cells are characters here, so that patterns can be used on them.
 */
final class Model {
    private static final String FROM = "abcdefghijklmnopqrstuvwxyz.,;:?!-' ";
    private static final int[] TO = {
        1, 3, 9, 25, 17, 11, 27, 19, 10, 26, 5, 7, 13, 29, 21, 15, 31, 23, 14, 30, 37, 39, 58, 45, 61, 53,
        50, 2, 6, 18, 38, 22, 36, 4, 0
    };
    private static final Pattern RULE = Pattern.compile("([wbmea]) ([a-z]{2,6})=(1?2?3?4?5?6?(-1?2?3?4?5?6?){0,2})");
    private static final Pattern TOKEN = Pattern.compile("[A-Za-z]+|[0-9]+|.");

    private record Rule(int kind, String letters, String cells) {
    }

    private record Block(int kind, String cells, List<Integer> origins) {
    }

    /** A line with its place, and the block to which it belongs. */
    private record Line(int page, int line, int left, String cells, int block) {
    }

    private final int width;
    private final int height;
    private String typed = "";
    private List<Rule> rules = new ArrayList<>();
    private int wrong = -1;
    private final List<Block> blocks = new ArrayList<>();
    private String heard = "";

    Model(int width, int height) {
        this.width = width < 10 ? 10 : width > 40 ? 40 : width;
        this.height = height < 4 ? 4 : height > 20 ? 20 : height;
    }

    int type(char c) {
        if (c < 32 || c > 126) {
            throw new IllegalArgumentException();
        }
        if (typed.length() == 80) {
            throw new IllegalStateException();
        }
        typed += c;
        return typed.length();
    }

    void wipe() {
        typed = "";
    }

    int rules(boolean lenient) {
        List<Rule> then = new ArrayList<>(rules);
        String[] texts = typed.split(";", -1);
        wrong = -1;
        for (int i = 0; i < texts.length; i++) {
            Rule rule = ruleOf(texts[i]);
            boolean known = rule != null
                && then.stream().anyMatch(r -> r.kind == rule.kind && r.letters.equals(rule.letters));
            if (rule != null && !known && then.size() < 24) {
                then.add(rule);
            } else if (wrong < 0) {
                wrong = i;
            }
        }
        if (wrong >= 0 && !lenient) {
            throw new IllegalArgumentException();
        }
        rules = then;
        typed = "";
        return rules.size();
    }

    private static Rule ruleOf(String text) {
        Matcher m = RULE.matcher(text);
        if (!m.matches()) {
            return null;
        }
        StringBuilder cells = new StringBuilder();
        for (String dots : m.group(3).split("-", -1)) {
            int cell = dots.chars().map(d -> 1 << (d - '1')).sum();
            if (cell == 0) {
                return null;
            }
            cells.append((char) cell);
        }
        return new Rule("wbmea".indexOf(m.group(1)), m.group(2), cells.toString());
    }

    int wrong() {
        return wrong;
    }

    int block(int kind) {
        if (kind < 0 || kind > 3 || !typed.matches("[A-Za-z0-9.,;:?!' -]*")) {
            throw new IllegalArgumentException();
        }
        if (blocks.size() == 12) {
            throw new IllegalStateException();
        }
        StringBuilder cells = new StringBuilder();
        List<Integer> origins = new ArrayList<>();
        if (kind != 3) {
            translate(cells, origins);
        }
        blocks.add(new Block(kind, cells.toString(), origins));
        typed = "";
        return blocks.size();
    }

    private void translate(StringBuilder cells, List<Integer> origins) {
        Matcher m = TOKEN.matcher(typed);
        while (m.find()) {
            String token = m.group();
            if (token.matches("[A-Za-z]+")) {
                word(token, m.start(), cells, origins);
            } else if (token.matches("[0-9]+")) {
                put((char) 60, m.start(), cells, origins);
                for (int i = 0; i < token.length(); i++) {
                    put(cellOf("jabcdefghi".charAt(token.charAt(i) - '0')), m.start() + i, cells, origins);
                }
                if (typed.substring(m.end()).matches("[a-j].*")) {
                    put((char) 48, m.end(), cells, origins);
                }
            } else {
                put(cellOf(token.charAt(0)), m.start(), cells, origins);
            }
        }
    }

    private void word(String word, int start, StringBuilder cells, List<Integer> origins) {
        if (word.matches("[A-Z]{2,}")) {
            put((char) 32, start, cells, origins);
            put((char) 32, start, cells, origins);
            word(word.toLowerCase(), start, cells, origins);
            return;
        }
        String rest = word;
        while (!rest.isEmpty()) {
            int from = word.length() - rest.length();
            if (Character.isUpperCase(rest.charAt(0))) {
                put((char) 32, start + from, cells, origins);
                rest = Character.toLowerCase(rest.charAt(0)) + rest.substring(1);
            }
            Rule best = null;
            for (Rule r : rules) {
                if (rest.startsWith(r.letters) && applies(r.kind, from, r.letters.length(), word.length())
                    && (best == null || key(r.letters, r) < key(best.letters, best))) {
                    best = r;
                }
            }
            String given = best == null ? "" + cellOf(rest.charAt(0)) : best.cells;
            for (char cell : given.toCharArray()) {
                put(cell, start + from, cells, origins);
            }
            rest = rest.substring(best == null ? 1 : best.letters.length());
        }
    }

    private static int key(String longest, Rule r) {
        return -10 * longest.length() + r.kind;
    }

    private static boolean applies(int kind, int from, int length, int all) {
        boolean begin = from == 0;
        boolean end = from + length == all;
        return kind == 4 || kind == (begin ? end ? 0 : 1 : end ? 3 : 2);
    }

    private static char cellOf(char c) {
        return (char) TO[FROM.indexOf(c)];
    }

    private static void put(char cell, int origin, StringBuilder cells, List<Integer> origins) {
        cells.append(cell);
        origins.add(origin);
    }

    private Block blockAt(int b) {
        if (b < 0 || b >= blocks.size()) {
            throw new IndexOutOfBoundsException();
        }
        return blocks.get(b);
    }

    int size(int b) {
        return blockAt(b).cells.length();
    }

    int cell(int b, int i) {
        Block block = blockAt(b);
        if (i < 0 || i >= block.cells.length()) {
            throw new IndexOutOfBoundsException();
        }
        return block.cells.charAt(i) + 64 * block.origins.get(i);
    }

    int back(int b) {
        StringBuilder all = new StringBuilder();
        String[] pieces = blockAt(b).cells.split("\0", -1);
        for (int i = 0; i < pieces.length; i++) {
            all.append(i == 0 ? "" : " ").append(readPiece(pieces[i]));
        }
        heard = all.toString();
        return heard.length();
    }

    private String readPiece(String piece) {
        int signs = piece.length() - piece.replaceFirst("^ +", "").length();
        StringBuilder all = new StringBuilder();
        boolean next = false;
        boolean rest = false;
        int i = 0;
        while (i < piece.length()) {
            char cell = piece.charAt(i);
            String given = "";
            if (cell == 60) {
                i++;
                while (i < piece.length() && digitCells().indexOf(piece.charAt(i)) >= 0) {
                    all.append(digitCells().indexOf(piece.charAt(i)));
                    i++;
                }
            } else if (cell == 48) {
                i++;
            } else if (cell == 32) {
                int from = i;
                while (i < piece.length() && piece.charAt(i) == 32) {
                    i++;
                }
                next = true;
                rest = rest || i - from > 1;
            } else {
                Rule best = null;
                for (Rule r : rules) {
                    if (piece.startsWith(r.cells, i)
                        && applies(r.kind, i - signs, r.cells.length(), piece.length() - signs)
                        && (best == null || key(r.cells, r) < key(best.cells, best))) {
                        best = r;
                    }
                }
                given = best == null ? characterOf(cell) : best.letters;
                i += best == null ? 1 : best.cells.length();
            }
            for (char c : given.toCharArray()) {
                boolean capital = Character.isLetter(c) && (next || rest);
                all.append(capital ? Character.toUpperCase(c) : c);
                next = next && !Character.isLetter(c);
            }
        }
        return all.toString();
    }

    /** The cells of the digits 0 .. 9. */
    private static String digitCells() {
        StringBuilder all = new StringBuilder();
        for (char c : "jabcdefghi".toCharArray()) {
            all.append(cellOf(c));
        }
        return all.toString();
    }

    private static String characterOf(char cell) {
        for (int i = 0; i < TO.length; i++) {
            if (TO[i] == cell) {
                return FROM.substring(i, i + 1);
            }
        }
        return "#";
    }

    char heard(int i) {
        return i < 0 || i >= heard.length() ? ' ' : heard.charAt(i);
    }

    private List<String> linesOf(Block block) {
        List<String> lines = new ArrayList<>();
        for (String piece : block.cells.split("\0+")) {
            if (piece.isEmpty()) {
                continue;
            }
            int last = lines.size() - 1;
            if (last >= 0 && lines.get(last).length() + 1 + piece.length() <= room(block.kind, last)) {
                lines.set(last, lines.get(last) + "\0" + piece);
                continue;
            }
            String rest = piece;
            while (!rest.isEmpty()) {
                int fits = Math.min(rest.length(), room(block.kind, lines.size()));
                lines.add(rest.substring(0, fits));
                rest = rest.substring(fits);
            }
        }
        return lines;
    }

    private int room(int kind, int line) {
        return width - (kind == 0 && line == 0 ? 2 : kind == 2 && line > 0 ? 4 : 0);
    }

    /** All lines, found by filling text lines that are counted through all pages. */
    private List<Line> layout() {
        int perPage = height - 1;
        List<Line> all = new ArrayList<>();
        int free = 0;
        for (int b = 0; b < blocks.size(); b++) {
            Block block = blocks.get(b);
            List<String> lines = linesOf(block);
            int nextPage = (free + perPage - 1) / perPage * perPage;
            if (block.kind == 3) {
                free = nextPage;
            }
            if (block.kind == 1 && !lines.isEmpty() && free != nextPage) {
                free = free + 1 + lines.size() + 1 > nextPage ? nextPage : free + 1;
            }
            for (int i = 0; i < lines.size(); i++) {
                int length = lines.get(i).length();
                int left = block.kind == 1 ? (width - length) / 2 : width - room(block.kind, i);
                all.add(new Line(free / perPage + 1, free % perPage, left, lines.get(i), b));
                free++;
            }
        }
        return all;
    }

    int pages() {
        List<Line> all = layout();
        return all.isEmpty() ? 1 : all.get(all.size() - 1).page;
    }

    int at(int page, int line, int place) {
        if (page < 1 || page > pages() || line < 0 || line >= height || place < 0 || place >= width) {
            throw new IndexOutOfBoundsException();
        }
        if (line == height - 1) {
            String number = "#" + page;
            int i = place - (width - number.length());
            return i < 0 ? 0 : i == 0 ? 60 : digitCells().charAt(number.charAt(i) - '0');
        }
        for (Line l : layout()) {
            int i = place - l.left;
            if (l.page == page && l.line == line && i >= 0 && i < l.cells.length()) {
                return l.cells.charAt(i);
            }
        }
        return 0;
    }

    int where(int b) {
        blockAt(b);
        for (Line l : layout()) {
            if (l.block == b) {
                return l.page * 32 + l.line;
            }
        }
        return -1;
    }

    int heading(int i) {
        List<Integer> found = new ArrayList<>();
        for (int b = 0; b < blocks.size(); b++) {
            if (blocks.get(b).kind == 1 && where(b) >= 0) {
                found.add(b);
            }
        }
        return i < 0 || i >= found.size() ? -1 : found.get(i);
    }

    void clear() {
        blocks.clear();
    }
}
