import java.io.IOException;
import java.io.UncheckedIOException;
import java.nio.file.Files;
import java.nio.file.Path;
import java.util.ArrayList;
import java.util.List;

/** The words of ../shared/DOC.md, so that a test which quotes them is known to quote what stands there. */
final class DocumentText {
    private static final Path PATH = Path.of("../shared/DOC.md");
    private static final String TEXT = read();

    private DocumentText() { }

    /** True also where the document can't be read: the tests run without it. */
    static boolean says(String where, String words) {
        return TEXT.isEmpty() || plain(passage(where)).contains(plain(words));
    }

    /** What the terms and the promises say, without the promises' heads; empty as above. */
    static List<String> passages() {
        List<String> passages = new ArrayList<>();
        for (String section : TEXT.split("\n## ")) {
            if (section.startsWith("Terms") || section.startsWith("Promise")) {
                String said = section.substring(section.indexOf('\n') + 1).strip();
                passages.add(plain(section.startsWith("Terms") ? said : said.replaceFirst("^`[^`]*`: ", "")));
            }
        }
        return passages;
    }

    private static String read() {
        if (!Files.isReadable(PATH)) {
            return "";
        }
        try {
            return Files.readString(PATH);
        } catch (IOException e) {
            throw new UncheckedIOException(e);
        }
    }

    static String plain(String text) {
        return text.replaceAll("\\s+", " ");
    }

    private static String passage(String where) {
        if (where.startsWith("Rule ")) {
            return rule(Integer.parseInt(where.substring(5)));
        }
        if (where.startsWith("Terms: ")) {
            return term(where.substring(7));
        }
        return section(where);
    }

    private static String section(String name) {
        for (String section : TEXT.split("\n## ")) {
            if (section.startsWith(name + ":") || section.startsWith(name + "\n")) {
                return section;
            }
        }
        return "";
    }

    private static String rule(int r) {
        String section = section(r <= 10 ? "Promise 4" : "Promise 10");
        String promise = plain(section.substring(section.indexOf('\n') + 1));
        int from = promise.indexOf(" " + r + ": ");
        int to = promise.indexOf(" " + (r + 1) + ": ");
        return from < 0 ? "" : promise.substring(from, to < 0 ? promise.length() : to);
    }

    private static String term(String name) {
        for (String paragraph : section("Terms").split("\n\n")) {
            if (paragraph.matches("(?s)(A |The )?" + name + "\\b.*")) {
                return paragraph;
            }
        }
        return "";
    }
}
