import java.io.IOException;
import java.nio.file.Files;
import java.nio.file.Path;
import java.util.List;
import java.util.regex.Matcher;
import java.util.regex.Pattern;

/** The rules of LANGUAGE.md that can be seen in the text of the class; FaceTest looks at its members. */
public final class SourceTest extends Checks {
    private static final String FILE = "src/main/java/LoanLetters.java";
    private static final String MAY_BE_THROWN = "IllegalStateException|IllegalArgumentException"
        + "|IndexOutOfBoundsException|ArithmeticException|UnsupportedOperationException|NoSuchElementException"
        + "|RuntimeException";
    private static final int MOST_LINES = 60;

    private static String text() {
        try {
            return Files.readString(Path.of(FILE));
        } catch (IOException e) {
            throw new IllegalStateException(FILE + " can't be read", e);
        }
    }

    /** Without comments; a text becomes "". */
    private static String code() {
        String strings = "\"(?:[^\"\\\\]|\\\\.)*\"";
        String comments = "//[^\n]*|/\\*(?s:.*?)\\*/";
        Matcher found = Pattern.compile(strings + "|" + comments).matcher(text());
        return found.replaceAll(m -> m.group().startsWith("\"") ? "\"\"" : "");
    }

    private static int count(String pattern) {
        return (int) Pattern.compile(pattern).matcher(code()).results().count();
    }

    private static void none(String what, String pattern) {
        due(what, count(pattern), 0);
    }

    private static void oneFileInPlainCharacters() {
        part("LANGUAGE.md, its beginning and rule 3");
        none("package lines", "(?m)^package\\b");
        none("characters above 255", "[^\\x00-\\xff]");
        due("public classes", count("\\bpublic (final )?class\\b"), 1);
    }

    private static void wordsThatAreRuledOut() {
        part("LANGUAGE.md, rules 2, 5 and 6");
        none("lambdas and method references", "->|::");
        none("static initialisers", "static\\s*\\{");
        none("words", "\\b(finally|synchronized|assert|volatile|native|hashCode|toString|getMessage)\\b");
        none("texts joined by +", "\"\"\\s*\\+|\\+\\s*\"\"");
    }

    private static void libraryThatIsListed() {
        part("LANGUAGE.md, rule 4");
        none("other imports", "(?m)^import (?!java\\.util\\.(ArrayList|List|Arrays|Iterator|NoSuchElementException);)");
        none("other calls of System", "\\bSystem\\.(?!arraycopy\\()");
        none("other calls of Arrays", "\\bArrays\\.(?!(copyOf|copyOfRange|fill)\\()");
        none("calls that throw by themselves", "\\b(Math|Integer|Long)\\.(\\w+Exact|parse\\w+|valueOf)\\(");
        none("classes by their whole name", "\\bjava\\.(?!util\\.\\w+;)");
    }

    private static void exceptionsThatAreListed() {
        part("LANGUAGE.md, rule 6");
        due("throws of listed exceptions", count("\\bthrow new (" + MAY_BE_THROWN + ")\\((\"\")?\\);"),
            count("\\bthrow\\b"));
    }

    private static void loopsWithAnEnd() {
        part("LANGUAGE.md, rule 9");
        none("loops without a bound", "for \\([^;]*;\\s*;|while \\(true\\)");
    }

    private static void methodsThatAreShort() {
        part("LANGUAGE.md, rule 11");
        Pattern head = Pattern.compile("( {4}| {8})\\S.*\\).*\\{");
        List<String> lines = text().lines().toList();
        int methods = 0;
        for (int k = 0; k < lines.size(); k++) {
            Matcher found = head.matcher(lines.get(k));
            if (found.matches()) {
                String end = found.group(1) + "}";
                due("the method of line " + (k + 1) + " is short",
                    lines.subList(k, Math.min(k + MOST_LINES, lines.size())).contains(end), true);
                methods++;
            }
        }
        due("methods were found", methods >= 16, true);
    }

    public static void main(String[] args) {
        runTestsOf(SourceTest.class);
    }
}
