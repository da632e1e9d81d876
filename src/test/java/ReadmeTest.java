import java.io.IOException;
import java.io.UncheckedIOException;
import java.lang.reflect.Method;
import java.nio.file.Files;
import java.nio.file.Path;
import java.util.ArrayList;
import java.util.List;
import java.util.stream.Stream;

/** What README.md tells of the class and of the tests holds. It is run in the project's directory. */
public final class ReadmeTest {
    private static final Path README = Path.of("README.md");
    private static final Path TESTS = Path.of("src", "test", "java");

    private static List<String> exampleLines;
    private static int gone;

    public static void main(String[] args) {
        Desk.run(
            ReadmeTest::exampleAnswersWhatItTells,
            ReadmeTest::everyCallIsTold,
            ReadmeTest::everyTestIsTold);
    }

    private static void exampleAnswersWhatItTells() {
        exampleLines = example();
        gone = 0;
        DotBook book = new DotBook(32, 12);
        line("DotBook book = new DotBook(32, 12);");
        Desk.typed(book, "w and=12346;e ing=346");
        line("for (char c : \"w and=12346;e ing=346\".toCharArray()) book.type(c);");
        line("int rules = book.rules(false);", book.rules(false));
        line("int wrong = book.wrong();", book.wrong());
        Desk.typed(book, "Reading and more");
        line("for (char c : \"Reading and more\".toCharArray()) book.type(c);");
        line("int blocks = book.block(1);", book.block(1));
        line("int size = book.size(0);", book.size(0));
        line("int dots = book.cell(0, 1) % 64;", book.cell(0, 1) % 64);
        line("int origin = book.cell(0, 1) / 64;", book.cell(0, 1) / 64);
        line("int count = book.back(0);", book.back(0));
        line("char first = book.heard(0);", book.heard(0));
        line("int pages = book.pages();", book.pages());
        line("int where = book.where(0);", book.where(0));
        line("int capital = book.at(1, 0, 9);", book.at(1, 0, 9));
        line("int number = book.at(1, 11, 31);", book.at(1, 11, 31));
        line("int heading = book.heading(0);", book.heading(0));
        book.clear();
        line("book.clear();");
        line("int none = book.heading(0);", book.heading(0));
        Desk.due("lines of the example", exampleLines.size(), gone);
    }

    private static void line(String code) {
        Desk.due("code", nextLine(), code);
    }

    /** The line's comment begins with the answer and a colon. */
    private static void line(String code, Object answer) {
        String[] parts = nextLine().split(" *// ", 2);
        Desk.due("code", parts[0], code);
        String comment = parts.length > 1 ? parts[1] : "";
        Desk.due(code, answer, comment.substring(0, Math.max(0, comment.indexOf(':'))));
    }

    private static String nextLine() {
        gone++;
        return gone <= exampleLines.size() ? exampleLines.get(gone - 1) : "";
    }

    private static List<String> example() {
        List<String> found = new ArrayList<>();
        boolean inside = false;
        for (String line : readme()) {
            if (line.startsWith("```")) {
                inside = line.equals("```java");
            } else if (inside) {
                found.add(line);
            }
        }
        return found;
    }

    private static void everyCallIsTold() {
        Desk.due("DotBook", startsARow("`DotBook("), true);
        for (Method m : DotBook.class.getDeclaredMethods()) {
            Desk.due(m.getName(), startsARow("`" + m.getName() + "("), true);
        }
    }

    private static void everyTestIsTold() {
        try (Stream<Path> files = Files.list(TESTS)) {
            files.map(file -> file.getFileName().toString())
                .filter(name -> name.endsWith("Test.java"))
                .forEach(name -> Desk.due(name, startsARow("`" + name.replace(".java", "") + "`"), true));
        } catch (IOException e) {
            throw new UncheckedIOException(e);
        }
    }

    private static boolean startsARow(String text) {
        return readme().stream().anyMatch(line -> line.startsWith("| " + text));
    }

    private static List<String> readme() {
        try {
            return Files.readAllLines(README);
        } catch (IOException e) {
            throw new UncheckedIOException(e);
        }
    }
}
