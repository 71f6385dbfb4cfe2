import java.io.ByteArrayOutputStream;
import java.io.IOException;
import java.io.PrintStream;
import java.lang.reflect.Method;
import java.lang.reflect.Modifier;
import java.nio.charset.StandardCharsets;
import java.nio.file.Files;
import java.nio.file.Path;
import java.util.Set;

/** README.md tells how to use every call, and its example does what it says. */
final class ReadmeTest {
    private static final Set<String> ALWAYS_ANSWER = Set.of("open", "load");
    private static final Checker CHECK = new Checker();

    public static void main(String[] args) throws IOException {
        String readme = Files.readString(Path.of("README.md"));
        theExampleStandsThere(readme);
        theExamplePrintsThat(readme);
        everyCallHasARow(readme);
        CHECK.finish();
    }

    private static void theExampleStandsThere(String readme) throws IOException {
        String example = Files.readString(Path.of("src/test/java/Example.java"));
        CHECK.due("README.md has Example.java whole", block(readme, "java").equals(example), true);
    }

    private static void theExamplePrintsThat(String readme) {
        PrintStream before = System.out;
        ByteArrayOutputStream printed = new ByteArrayOutputStream();
        System.setOut(new PrintStream(printed, true, StandardCharsets.UTF_8));
        Example.main(new String[0]);
        System.setOut(before);
        String lines = printed.toString(StandardCharsets.UTF_8).replace("\r\n", "\n");
        CHECK.due("README.md has what it prints:\n" + lines, block(readme, "text").equals(lines), true);
    }

    private static void everyCallHasARow(String readme) {
        for (Method method : SectorDocument.class.getDeclaredMethods()) {
            if (Modifier.isPublic(method.getModifiers())) {
                String[] cells = row(readme, method.getName());
                CHECK.due("a row of three for " + method.getName(), cells.length, 4);
                CHECK.due("it says what " + method.getName() + " answers where there is nothing",
                    cells.length == 4 && cells[3].contains(nothing(method)), true);
            }
        }
    }

    private static String nothing(Method method) {
        if (ALWAYS_ANSWER.contains(method.getName())) {
            return "it always answers";
        }
        if (method.getReturnType() == boolean.class) {
            return "`false`";
        }
        return method.getReturnType() == long.class ? "`NO_WORD`" : "`NONE`";
    }

    private static String[] row(String readme, String name) {
        for (String line : readme.split("\n")) {
            if (line.startsWith("| `" + name + "(")) {
                return line.split("\\|");
            }
        }
        return new String[0];
    }

    /** The first block of that language, with its last line's end. */
    private static String block(String readme, String language) {
        String head = "```" + language + "\n";
        int from = readme.indexOf(head) + head.length();
        int to = readme.indexOf("```\n", from);
        return readme.contains(head) && to >= 0 ? readme.substring(from, to) : "";
    }
}
