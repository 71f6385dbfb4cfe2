import java.io.IOException;
import java.nio.file.DirectoryStream;
import java.nio.file.Files;
import java.nio.file.Path;
import java.util.BitSet;
import java.util.List;
import java.util.Set;
import java.util.TreeSet;
import java.util.regex.Matcher;
import java.util.regex.Pattern;

/** Every promise, every rule and every term is named by a test, and their sentences are quoted by one. */
final class SentenceTest {
    private static final String TEXT = "\"((?:[^\"\\\\]|\\\\.)*)\"";
    private static final Pattern QUOTED = Pattern.compile(
        "sentence\\(\\s*" + TEXT + ",\\s*(" + TEXT + "(?:\\s*\\+\\s*" + TEXT + ")*)\\s*\\)");
    private static final List<String> TERMS = List.of(
        "FILE", "HEADER", "TABLE", "DIRECTORY", "LETTERS", "SMALL SECTORS", "STREAM", "DOCUMENT", "GROUP",
        "BANDS", "PIECES", "UNIT", "LOOK", "STYLES", "PARAGRAPHS", "FIELDS", "constants");
    /** What lies between two quotes and is shorter only leads from one to the next. */
    private static final int SHORTEST_SENTENCE = 36;
    private static final Checker CHECK = new Checker();

    public static void main(String[] args) throws IOException {
        Set<String> named = new TreeSet<>();
        Set<String> quotes = new TreeSet<>();
        try (DirectoryStream<Path> sources = Files.newDirectoryStream(Path.of("src/test/java"), "*Test.java")) {
            for (Path source : sources) {
                Matcher matcher = QUOTED.matcher(Files.readString(source));
                while (matcher.find()) {
                    named.add(matcher.group(1));
                    quotes.add(joined(matcher.group(2)));
                }
            }
        }
        everythingIsNamed(named);
        everySentenceIsQuoted(quotes);
        CHECK.finish();
    }

    private static void everythingIsNamed(Set<String> named) {
        for (int promise = 1; promise <= 17; promise++) {
            CHECK.due("promise " + promise + " has a test", named.contains("Promise " + promise), true);
        }
        for (int rule = 1; rule <= 20; rule++) {
            CHECK.due("rule " + rule + " has a test", named.contains("Rule " + rule), true);
        }
        for (String term : TERMS) {
            CHECK.due("the term " + term + " has a test", named.contains("Terms: " + term), true);
        }
    }

    private static void everySentenceIsQuoted(Set<String> quotes) {
        for (String passage : DocumentText.passages()) {
            BitSet quoted = new BitSet();
            for (String quote : quotes) {
                for (int at = passage.indexOf(quote); at >= 0; at = passage.indexOf(quote, at + 1)) {
                    quoted.set(at, at + quote.length());
                }
            }
            int from = quoted.nextClearBit(0);
            while (from < passage.length()) {
                int to = quoted.nextSetBit(from) < 0 ? passage.length() : quoted.nextSetBit(from);
                CHECK.due("no test quotes \"" + passage.substring(from, to) + "\"",
                    to - from >= SHORTEST_SENTENCE, false);
                from = quoted.nextClearBit(to);
            }
        }
    }

    /** The parts of a text that is written with plus signs over several lines. */
    private static String joined(String written) {
        StringBuilder words = new StringBuilder();
        Matcher matcher = Pattern.compile(TEXT).matcher(written);
        while (matcher.find()) {
            words.append(matcher.group(1).replace("\\\"", "\""));
        }
        return DocumentText.plain(words.toString());
    }
}
