import java.io.IOException;
import java.io.UncheckedIOException;
import java.nio.file.Files;
import java.nio.file.Path;
import java.util.ArrayList;
import java.util.List;

/** What ../shared/DOC.md says, its lines joined: the terms (as section 0), and each promise by its number. */
final class Document {
    static final int TERMS = 0;
    static final int PROMISES = 39;
    private static final String TEXT = text();

    private Document() {
    }

    private static String text() {
        try {
            return Files.readString(Path.of("../shared/DOC.md")).replaceAll("```(text|java)?", " ").replaceAll("\\s+", " ");
        } catch (IOException e) {
            throw new UncheckedIOException(e);
        }
    }

    static String section(int number) {
        String head = number == TERMS ? "## Terms" : "## Promise " + number + ":";
        int from = TEXT.indexOf(head);
        if (from < 0) {
            return "";
        }
        int end = TEXT.indexOf(" ## ", from);
        return TEXT.substring(from, end < 0 ? TEXT.length() : end);
    }

    /** The section that has the words: the promise itself, else the terms; -1 if neither has them. */
    static int sectionThatSays(int promise, String words) {
        if (section(promise).contains(words)) {
            return promise;
        }
        return section(TERMS).contains(words) ? TERMS : -1;
    }

    /** The sentences of a section without its head, and of these the parts between semicolons. */
    static List<String> sentences(int number) {
        String body = section(number).replaceFirst("^## Terms ", "").replaceFirst("^## Promise \\d+: .*?`.*?`: ", "");
        List<String> all = new ArrayList<>();
        for (String one : body.split("(?<=;) |(?<=[^.][.]) (?=[A-Z(=])")) {
            all.add(one);
        }
        return all;
    }
}
