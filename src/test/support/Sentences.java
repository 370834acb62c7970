import java.io.IOException;
import java.nio.file.Files;
import java.nio.file.Path;

/** Tests of single sentences of the document: each names its promise and its sentence. */
class Sentences extends Stages {
    private static final Path DOCUMENT = Path.of("..", "shared", "DOC.md");
    private static final String TEXT = read();

    /** Without the document the answers can still be looked at, though not the quotations. */
    private static String read() {
        try {
            return oneLine(Files.readString(DOCUMENT));
        } catch (IOException e) {
            System.out.println("the quotations aren't looked up: " + DOCUMENT + " can't be read");
            return "";
        }
    }

    private static String oneLine(String text) {
        return text.replaceAll("\\s+", " ");
    }

    /** What follows tests this sentence, which stands in the promise's own section or in the terms. */
    static void sentence(int promise, String words) {
        part("promise " + promise + ", \"" + words + "\"");
        boolean stands = section("## Promise " + promise + ":").contains(words) || section("## Terms").contains(words);
        if (!TEXT.isEmpty() && !stands) {
            wrong("the document doesn't say that there");
        }
    }

    private static String section(String heading) {
        int start = TEXT.indexOf(heading);
        if (start < 0) {
            return "";
        }
        int end = TEXT.indexOf(" ## ", start);
        return end < 0 ? TEXT.substring(start) : TEXT.substring(start, end);
    }
}
