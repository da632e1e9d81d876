import java.util.Random;

/** All promises: runs of calls from a seeded source, on a DotBook and on the Model side by side. */
public final class ModelTest {
    private static final int RUNS = 1500;
    private static final String[] CELLS = {
        "1", "12", "14", "2", "4", "6", "56", "3456", "25", "123456", "45", "5", "16", "15", "3", "235", "6", "6"
    };

    private final Random source;
    private final DotBook x;
    private final Model model;
    private final String letters;
    private final StringBuilder calls = new StringBuilder();
    private int left = 512;
    private boolean same = true;

    private ModelTest(long seed) {
        source = new Random(seed);
        int width = one(3) == 0 ? one(60) - 5 : 10 + one(6);
        int height = one(3) == 0 ? one(30) - 5 : 4 + one(4);
        x = new DotBook(width, height);
        model = new Model(width, height);
        letters = "abcdefghijklmnopqrstuvwxyz".substring(0, one(4) == 0 ? 26 : 2 + one(4));
        calls.append("new ").append(width).append(' ').append(height);
    }

    public static void main(String[] args) {
        for (int seed = 0; seed < RUNS; seed++) {
            new ModelTest(seed).run(seed);
        }
        Desk.end();
    }

    private void run(int seed) {
        while (left > 0 && same) {
            step();
        }
        Desk.due("run " + seed, same ? "as the model" : calls, "as the model");
    }

    private int one(int of) {
        return source.nextInt(of);
    }

    private void step() {
        int what = one(20);
        if (what < 4) {
            typeAll(one(12) == 0 ? text(40, 80) : ruleTexts());
            boolean lenient = one(2) == 0;
            call("rules " + lenient, Desk.outcome(() -> x.rules(lenient)), Desk.outcome(() -> model.rules(lenient)));
            call("wrong", x.wrong(), model.wrong());
            wipeSometimes();
        } else if (what < 12) {
            typeAll(text(0, one(3) == 0 ? 80 : 25));
            int kind = one(15) == 0 ? one(8) - 2 : one(6) % 4;
            call("block " + kind, Desk.outcome(() -> x.block(kind)), Desk.outcome(() -> model.block(kind)));
            wipeSometimes();
        } else if (what < 13 && one(3) == 0) {
            x.clear();
            model.clear();
            call("clear", 0, 0);
        } else {
            ask();
        }
    }

    private void wipeSometimes() {
        if (one(3) > 0) {
            x.wipe();
            model.wipe();
            call("wipe", 0, 0);
        }
    }

    private void typeAll(String text) {
        for (char c : text.toCharArray()) {
            call("type " + c, Desk.outcome(() -> x.type(c)), Desk.outcome(() -> model.type(c)));
        }
    }

    private void ask() {
        int b = one(14) - 1;
        call("size " + b, Desk.outcome(() -> x.size(b)), Desk.outcome(() -> model.size(b)));
        int i = one(200) - 1 >> one(4);
        call("cell " + b + " " + i, Desk.outcome(() -> x.cell(b, i)), Desk.outcome(() -> model.cell(b, i)));
        call("where " + b, Desk.outcome(() -> x.where(b)), Desk.outcome(() -> model.where(b)));
        call("back " + b, Desk.outcome(() -> x.back(b)), Desk.outcome(() -> model.back(b)));
        for (int k = 0; k < 4; k++) {
            int place = one(100) - 1 >> one(4);
            call("heard " + place, x.heard(place), model.heard(place));
        }
        call("pages", x.pages(), model.pages());
        int h = one(5) - 1;
        call("heading " + h, x.heading(h), model.heading(h));
        for (int k = 0; k < 5; k++) {
            int page = one(model.pages() + 2);
            int line = one(22) - 1 >> one(3);
            int place = one(42) - 1 >> one(3);
            call("at " + page + " " + line + " " + place,
                Desk.outcome(() -> x.at(page, line, place)), Desk.outcome(() -> model.at(page, line, place)));
        }
    }

    private void call(String what, Object got, Object due) {
        // What an object answers behind its 512th call is free.
        if (left == 0) {
            return;
        }
        left--;
        calls.append("; ").append(what);
        if (same && !String.valueOf(got).equals(String.valueOf(due))) {
            calls.append(" answered ").append(got).append(", the model ").append(due);
            same = false;
        }
    }

    private String ruleTexts() {
        StringBuilder all = new StringBuilder();
        int count = 1 + one(6);
        for (int i = 0; i < count; i++) {
            all.append(i == 0 ? "" : ";").append(ruleText());
        }
        return all.length() > 82 ? all.substring(0, 82) : all.toString();
    }

    private String ruleText() {
        StringBuilder text = new StringBuilder();
        text.append("wbmeaa".charAt(one(6))).append(' ');
        int count = one(10) == 0 ? one(9) : 2 + one(3);
        for (int i = 0; i < count; i++) {
            text.append(letters.charAt(one(letters.length())));
        }
        text.append('=').append(CELLS[one(CELLS.length)]);
        int more = one(12) == 0 ? one(5) : one(3);
        for (int i = 0; i < more; i++) {
            text.append('-').append(CELLS[one(CELLS.length)]);
        }
        if (one(12) == 0) {
            int at = one(text.length());
            text.setCharAt(at, "a1 =-;7B".charAt(one(8)));
        }
        if (one(20) == 0) {
            text.deleteCharAt(one(text.length()));
        }
        return text.toString();
    }

    private String text(int least, int most) {
        int length = least + one(most - least + 1);
        int style = one(4);
        StringBuilder text = new StringBuilder();
        for (int i = 0; i < length; i++) {
            text.append(character(style));
        }
        if (one(25) == 0 && length > 0) {
            text.setCharAt(one(length), (char) one(140));
        }
        return text.toString();
    }

    private char character(int style) {
        int what = one(20);
        char letter = letters.charAt(one(letters.length()));
        if (what < 3) {
            return ' ';
        }
        if (what < 4) {
            return ".,;:?!-'".charAt(one(8));
        }
        if (what < 5 + style) {
            return (char) ('0' + one(10));
        }
        if (style == 1 || style == 2 && one(4) == 0) {
            return Character.toUpperCase(letter);
        }
        return letter;
    }
}
