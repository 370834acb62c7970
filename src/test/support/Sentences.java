import java.io.IOException;
import java.nio.file.Files;
import java.nio.file.Path;

/** Tests of single sentences of the document: each names its promise and its sentence. */
class Sentences extends Stages {
    private static final Path DOCUMENT = Path.of("..", "shared", "DOC.md");
    private static final String TEXT = read();

    private static String read() {
        try {
            return oneLine(Files.readString(DOCUMENT));
        } catch (IOException e) {
            throw new IllegalStateException("the tests quote " + DOCUMENT + ", which can't be read", e);
        }
    }

    private static String oneLine(String text) {
        return text.replaceAll("\\s+", " ");
    }

    /** What follows tests this sentence, which stands in the promise's own section or in the terms. */
    static void sentence(int promise, String words) {
        part("promise " + promise + ", \"" + words + "\"");
        if (!section("## Promise " + promise + ":").contains(words) && !section("## Terms").contains(words)) {
            wrong("the document doesn't say that there");
        }
    }

    private static String section(String heading) {
        int start = TEXT.indexOf(heading);
        if (start < 0) {
            return "";
        }
        int end = TEXT.indexOf(" ## ", start);
        return end < 0 ? TEXT.substring(start) : TEXT.substring(start, end);
    }
}
