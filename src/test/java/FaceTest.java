import java.io.IOException;
import java.io.UncheckedIOException;
import java.lang.reflect.Constructor;
import java.lang.reflect.Field;
import java.lang.reflect.Method;
import java.lang.reflect.Modifier;
import java.nio.file.Files;
import java.nio.file.Path;
import java.util.ArrayList;
import java.util.List;
import java.util.TreeSet;
import java.util.regex.Matcher;
import java.util.regex.Pattern;

/** The document's public face, and the rules of the language that can be seen in the compiled class and its source. */
public final class FaceTest {
    private static final String[] FACE = {
        "public int type(char) throws IllegalArgumentException,IllegalStateException",
        "public void wipe()",
        "public int rules(boolean) throws IllegalArgumentException",
        "public int wrong()",
        "public int block(int) throws IllegalArgumentException,IllegalStateException",
        "public int size(int) throws IndexOutOfBoundsException",
        "public int cell(int,int) throws IndexOutOfBoundsException",
        "public int back(int) throws IndexOutOfBoundsException",
        "public char heard(int)",
        "public int pages()",
        "public int at(int,int,int) throws IndexOutOfBoundsException",
        "public int where(int) throws IndexOutOfBoundsException",
        "public int heading(int)",
        "public void clear()",
    };
    private static final Path SOURCE = Path.of("src", "main", "java", "DotBook.java");
    private static final String COMMENTS = "(?s)/\\*.*?\\*/|//[^\n]*";
    // What no rule of LANGUAGE.md has room for, or what this class does without.
    private static final String[] RULED_OUT = {
        "import", "package", "try", "catch", "finally", "synchronized", "assert", "protected", "native", "volatile",
        "System", "Thread", "Random", "Object", "hashCode", "toString", "Exact", "NaN",
    };
    private static final String THROWN_BARE =
        "throw new (IllegalArgumentException|IllegalStateException|IndexOutOfBoundsException)\\(\\);";
    private static final int LONGEST_METHOD = 60;

    public static void main(String[] args) {
        Desk.run(
            FaceTest::hasTheFaceAlone,
            FaceTest::keepsNamesApart,
            FaceTest::hasNoStaticState,
            FaceTest::usesNothingRuledOut,
            FaceTest::throwsWhatTheDocumentNames,
            FaceTest::hasShortMethods);
    }

    private static void hasTheFaceAlone() {
        TreeSet<String> found = new TreeSet<>();
        for (Method m : DotBook.class.getDeclaredMethods()) {
            if (!Modifier.isPrivate(m.getModifiers())) {
                found.add(m.toString().replace("DotBook.", "").replace("java.lang.", ""));
            }
        }
        Desk.due("methods", found, new TreeSet<>(List.of(FACE)));
        List<String> made = new ArrayList<>();
        for (Constructor<?> c : DotBook.class.getDeclaredConstructors()) {
            made.add(c.toString());
        }
        Desk.due("constructors", made, "[public DotBook(int,int)]");
        for (Field f : DotBook.class.getDeclaredFields()) {
            Desk.due("private: " + f, Modifier.isPrivate(f.getModifiers()), true);
        }
        Desk.due("final", Modifier.isFinal(DotBook.class.getModifiers()), true);
    }

    private static List<Class<?>> allClasses() {
        List<Class<?>> all = new ArrayList<>(List.of(DotBook.class.getDeclaredClasses()));
        all.add(DotBook.class);
        return all;
    }

    private static void keepsNamesApart() {
        TreeSet<String> faceNames = new TreeSet<>();
        for (Method m : DotBook.class.getMethods()) {
            faceNames.add(m.getName());
        }
        for (Class<?> c : allClasses()) {
            for (Method m : c.getDeclaredMethods()) {
                boolean ofFace = c == DotBook.class && Modifier.isPublic(m.getModifiers());
                Desk.due("own name: " + m, !ofFace && faceNames.contains(m.getName()), false);
                Desk.due("at most seven parameters: " + m, m.getParameterCount() <= 7, true);
            }
        }
    }

    private static void hasNoStaticState() {
        List<Class<?>> all = allClasses();
        Desk.due("at most twelve classes", all.size() <= 12, true);
        for (Class<?> c : all) {
            int fields = 0;
            for (Field f : c.getDeclaredFields()) {
                boolean isStatic = Modifier.isStatic(f.getModifiers());
                Desk.due("final: " + f, !isStatic || Modifier.isFinal(f.getModifiers()), true);
                fields += isStatic ? 0 : 1;
            }
            Desk.due("at most twenty fields: " + c, fields <= 20, true);
        }
    }

    private static void usesNothingRuledOut() {
        String code = source().replaceAll(COMMENTS, "");
        for (String word : RULED_OUT) {
            Desk.due("uses " + word, Pattern.compile("\\b" + word + "\\b").matcher(code).find(), false);
        }
        Desk.due("uses a lambda", code.contains("->"), false);
        Desk.due("uses a method reference", code.contains("::"), false);
        Desk.due("has an initialiser block", Pattern.compile("static\\s*\\{").matcher(code).find(), false);
        Desk.due("has other characters than ASCII's", code.chars().anyMatch(c -> c > 126), false);
    }

    private static void throwsWhatTheDocumentNames() {
        String code = source().replaceAll(COMMENTS, "");
        int thrown = code.split("\\bthrow\\b", -1).length - 1;
        Desk.due("throws", code.split(THROWN_BARE, -1).length - 1, thrown);
    }

    private static void hasShortMethods() {
        // A method is all that stands between its first line and the bracket below it that is as far to the right.
        Matcher method = Pattern.compile("(?ms)^( +)[^\n]*\\) [^\n]*\\{$.*?^\\1\\}$").matcher(source());
        int longest = 0;
        while (method.find()) {
            longest = Math.max(longest, method.group().split("\n").length);
        }
        Desk.due("methods were found", longest > 0, true);
        Desk.due("longest method of " + longest + " lines", longest <= LONGEST_METHOD, true);
    }

    private static String source() {
        try {
            return Files.readString(SOURCE);
        } catch (IOException e) {
            throw new UncheckedIOException(e);
        }
    }
}
