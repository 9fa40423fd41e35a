import java.io.IOException;
import java.io.UncheckedIOException;
import java.nio.file.Files;
import java.nio.file.Path;
import java.util.ArrayList;
import java.util.List;
import java.util.Set;
import java.util.TreeSet;

/** The document's own words, so that a test can name the sentence that it is about. */
final class Doc {
    private static final String TEXT = read();
    private static final Set<String> QUOTED = new TreeSet<>();

    private Doc() {
    }

    /** Tells the sentence that the tests behind it are about; it must stand in the document. */
    static void says(String sentence) {
        Due.is("the document says '" + sentence + "'", TEXT.contains(sentence), true);
        QUOTED.add(sentence);
    }

    /** Each sentence of the chapter 'Terms' has a test that quotes it. */
    static void allTermsAreQuoted() {
        for (String sentence : terms()) {
            Due.is("some test is about '" + sentence + "'", QUOTED.contains(sentence), true);
        }
    }

    /** The sentences of the chapter 'Terms', without those that are only headings. */
    static List<String> terms() {
        List<String> found = new ArrayList<>();
        for (String paragraph : between("## Terms", "## Promise 1:").strip().split("\n\n")) {
            for (String sentence : paragraph.strip().split("(?<=\\.) (?=[A-Z'])")) {
                boolean isHeading = sentence.matches("[A-Z][a-z]*( [a-z]+){0,2}\\.") || sentence.endsWith(":");
                if (!isHeading) {
                    found.add(sentence);
                }
            }
        }
        return found;
    }

    /** Tells the sentences of a promise that the tests behind them are about. */
    static void promise(int number, String... sentences) {
        for (String sentence : sentences) {
            Due.is("promise " + number + " says '" + sentence + "'", linesOf(number).contains(sentence), true);
            QUOTED.add(number + " " + sentence);
        }
    }

    /** What each promise does and answers, and what its arguments can be, has a test that quotes it. */
    static void allPromisesAreQuoted() {
        for (int number = 1; number <= 47; number++) {
            for (String line : linesOf(number)) {
                boolean isPlainArgument = line.startsWith("`") && !line.contains(",") && !line.contains(";");
                boolean isException = line.startsWith("Throws `");
                if (!isPlainArgument && !isException) {
                    Due.is("some test is about '" + number + " " + line + "'", QUOTED.contains(number + " " + line), true);
                }
            }
        }
    }

    /** What stands below a promise's heading, without the signature and the signs of a list. */
    private static List<String> linesOf(int promise) {
        List<String> found = new ArrayList<>();
        String end = promise == 47 ? "## Not promised" : "## Promise " + (promise + 1) + ":";
        String text = between("## Promise " + promise + ":", end);
        for (String line : text.substring(text.indexOf('\n') + 1).split("\n")) {
            if (!line.isBlank()) {
                found.add(line.replaceFirst("^- ", "").replaceFirst("^`[^`]*\\([^`]*`: ", ""));
            }
        }
        return found;
    }

    /** What a promise says of its exceptions, in the order of the document: "name: when". */
    static List<String> exceptionsOf(int promise) {
        List<String> found = new ArrayList<>();
        for (String line : linesOf(promise)) {
            if (line.startsWith("Throws `")) {
                found.add(line.replaceAll("Throws `(\\w+)` (.*)", "$1: $2"));
            }
        }
        return found;
    }

    private static String between(String start, String end) {
        int from = TEXT.indexOf(start);
        int to = TEXT.indexOf(end);
        Due.is("the document has '" + start + "' ahead of '" + end + "'", from >= 0 && from < to, true);
        return from >= 0 && from < to ? TEXT.substring(from + start.length(), to) : "";
    }

    private static String read() {
        try {
            return Files.readString(Path.of("../shared/DOC.md"));
        } catch (IOException e) {
            throw new UncheckedIOException(e);
        }
    }
}
