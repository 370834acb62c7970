import java.io.IOException;
import java.lang.reflect.Method;
import java.lang.reflect.Modifier;
import java.nio.file.Files;
import java.nio.file.Path;
import java.util.HashMap;
import java.util.List;
import java.util.Map;
import java.util.regex.Matcher;
import java.util.regex.Pattern;

/** README.md names every call of the class, and its examples answer what their comments tell. */
public final class ReadmeTest extends Checks {
    private static final String NEW_OBJECT = "LoanLetters x = new LoanLetters();";
    /** The variable, the call and its arguments, and the answer: first and last may be missing. */
    private static final Pattern LINE = Pattern.compile(
        "(?:(?:int|boolean) (\\w+) = )?x\\.(\\w+)\\((.*)\\);(?: *// (?:(-?\\d+|true|false): )?.*)?");

    private static List<String> readme() {
        try {
            return Files.readAllLines(Path.of("README.md"));
        } catch (IOException e) {
            throw new IllegalStateException("README.md can't be read", e);
        }
    }

    private static void namesEveryCall() {
        part("README.md, the calls");
        String text = String.join("\n", readme());
        for (Method method : LoanLetters.class.getDeclaredMethods()) {
            if (Modifier.isPublic(method.getModifiers())) {
                String row = "\n\\| `" + method.getName() + "\\(" + arguments(method.getParameterCount()) + "\\)` \\|";
                due("a row of " + method.getName(), Pattern.compile(row).matcher(text).find(), true);
            }
        }
    }

    private static String arguments(int count) {
        return count == 0 ? "" : "\\w+" + ", \\w+".repeat(count - 1);
    }

    private static void examplesAnswerWhatTheyTell() {
        boolean isCode = false;
        int examples = 0;
        LoanLetters x = null;
        Map<String, Integer> values = new HashMap<>();
        for (String line : readme()) {
            part("README.md, \"" + line + "\"");
            if (line.startsWith("```")) {
                isCode = line.equals("```java");
                examples += isCode ? 1 : 0;
                values.clear();
                x = null;
            } else if (isCode && line.equals(NEW_OBJECT)) {
                x = new LoanLetters();
            } else if (isCode) {
                play(x, line, values);
            }
        }
        due("examples", examples, 2);
    }

    private static void play(LoanLetters x, String line, Map<String, Integer> values) {
        Matcher parts = LINE.matcher(line);
        if (x == null || !parts.matches()) {
            wrong("the line can't be read");
            return;
        }
        int got = call(x, parts.group(2), parts.group(3), values);
        if (parts.group(1) != null) {
            values.put(parts.group(1), got);
        }
        if (parts.group(4) != null) {
            due(parts.group(2), got, value(x, parts.group(4), values));
        }
    }

    private static int call(LoanLetters x, String name, String written, Map<String, Integer> values) {
        String[] texts = written.isEmpty() ? new String[0] : written.split(", ");
        Class<?>[] types = new Class<?>[texts.length];
        Object[] arguments = new Object[texts.length];
        for (int k = 0; k < texts.length; k++) {
            types[k] = int.class;
            arguments[k] = value(x, texts[k], values);
        }
        try {
            Object got = LoanLetters.class.getMethod(name, types).invoke(x, arguments);
            return got instanceof Boolean b ? b ? 1 : 0 : (Integer) got;
        } catch (ReflectiveOperationException e) {
            wrong("it can't be called: " + e);
            return OTHER_THROW;
        }
    }

    private static int value(LoanLetters x, String text, Map<String, Integer> values) {
        switch (text) {
            case "true": return 1;
            case "false": return 0;
            case "x.letters() - 1": return x.letters() - 1;
            default: return values.containsKey(text) ? values.get(text) : Integer.parseInt(text);
        }
    }

    public static void main(String[] args) {
        runTestsOf(ReadmeTest.class);
    }
}
