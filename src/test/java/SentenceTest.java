import java.io.IOException;
import java.nio.file.DirectoryStream;
import java.nio.file.Files;
import java.nio.file.Path;
import java.util.List;
import java.util.Set;
import java.util.TreeSet;
import java.util.regex.Matcher;
import java.util.regex.Pattern;

/** Every promise, every rule and every term of the document is named by a test of one of its sentences. */
final class SentenceTest {
    private static final Pattern NAMED = Pattern.compile("sentence\\(\\s*\"([^\"]+)\"");
    private static final List<String> TERMS = List.of(
        "FILE", "HEADER", "TABLE", "DIRECTORY", "LETTERS", "SMALL SECTORS", "STREAM", "DOCUMENT", "GROUP",
        "BANDS", "PIECES", "UNIT", "LOOK", "STYLES", "PARAGRAPHS", "FIELDS", "constants");
    private static final Checker CHECK = new Checker();

    public static void main(String[] args) throws IOException {
        Set<String> named = new TreeSet<>();
        try (DirectoryStream<Path> sources = Files.newDirectoryStream(Path.of("src/test/java"), "*Test.java")) {
            for (Path source : sources) {
                Matcher matcher = NAMED.matcher(Files.readString(source));
                while (matcher.find()) {
                    named.add(matcher.group(1));
                }
            }
        }
        for (int promise = 1; promise <= 17; promise++) {
            CHECK.due("promise " + promise + " has a test", named.contains("Promise " + promise), true);
        }
        for (int rule = 1; rule <= 20; rule++) {
            CHECK.due("rule " + rule + " has a test", named.contains("Rule " + rule), true);
        }
        for (String term : TERMS) {
            CHECK.due("the term " + term + " has a test", named.contains("Terms: " + term), true);
        }
        CHECK.finish();
    }
}
