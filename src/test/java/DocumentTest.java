import java.io.IOException;
import java.nio.file.Files;
import java.nio.file.Path;
import java.util.ArrayList;
import java.util.List;
import java.util.regex.Matcher;
import java.util.regex.Pattern;
import java.util.stream.Stream;

/** Each sentence of the document's terms and promises has a test that names it. */
public final class DocumentTest {
    private static final Check c = new Check();
    private static final Pattern NAMED = Pattern.compile("Edge\\.of\\((\\w+), \"((?:[^\"\\\\]|\\\\.)*)\"\\)");

    /** A promise (or TERMS for a test that has several), and the words of the document that the test names. */
    private record Named(int promise, String words) {
    }

    public static void main(String[] args) throws IOException {
        List<Named> named = namedInTests();
        for (int section = 0; section <= Document.PROMISES; section++) {
            c.due("section " + section + " stands in the document", Document.section(section).isEmpty() ? 0 : 1, 1);
            for (String sentence : Document.sentences(section)) {
                if (!isOfTheInterface(sentence)) {
                    c.due("a test names \"" + sentence + "\" of section " + section, isNamed(section, sentence, named) ? 1 : 0, 1);
                }
            }
        }
        for (int promise = 1; promise <= Document.PROMISES; promise++) {
            int number = promise;
            c.due("tests name promise " + promise, named.stream().anyMatch(one -> one.promise == number) ? 1 : 0, 1);
        }
        c.end();
    }

    private static boolean isOfTheInterface(String sentence) {
        return sentence.contains("the interface says: ----");
    }

    private static List<Named> namedInTests() throws IOException {
        List<Named> named = new ArrayList<>();
        try (Stream<Path> files = Files.list(Path.of("src/test/java"))) {
            for (Path file : files.filter(one -> one.toString().endsWith("Test.java")).toList()) {
                Matcher m = NAMED.matcher(Files.readString(file));
                while (m.find()) {
                    boolean ofOne = m.group(1).matches("\\d+");
                    named.add(new Named(ofOne ? Integer.parseInt(m.group(1)) : Document.TERMS, m.group(2)));
                }
            }
        }
        return named;
    }

    /** Whether words that a test names have something of the sentence, where it stands in its section. */
    private static boolean isNamed(int section, String sentence, List<Named> named) {
        String text = Document.section(section);
        int from = text.indexOf(sentence);
        int end = from + sentence.length();
        for (Named one : named) {
            if (Document.sectionThatSays(one.promise, one.words) == section) {
                int at = text.indexOf(one.words);
                if (at < end && at + one.words.length() > from) {
                    return true;
                }
            }
        }
        return false;
    }
}
