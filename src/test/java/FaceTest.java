import java.io.IOException;
import java.lang.reflect.Constructor;
import java.lang.reflect.Field;
import java.lang.reflect.Method;
import java.lang.reflect.Modifier;
import java.nio.file.Files;
import java.nio.file.Path;
import java.util.Arrays;
import java.util.List;
import java.util.TreeSet;
import java.util.regex.Pattern;

/** The public face of the document, and those rules of LANGUAGE.md that can be seen from outside. */
final class FaceTest {
    private static final Checker CHECK = new Checker();
    private static final List<String> FACE = List.of(
        "boolean put(int, int, int, int, int)", "boolean resize(int)", "int open()", "int entries()",
        "long entry(int, int)", "int find(int, int)", "int place(int, int)", "long word(int, int)",
        "int load()", "int length(int)", "int unit(int)", "int bands(int)", "long look(int, int)",
        "long style(int, int)", "int depth(int)", "boolean shown(int)");
    private static final List<String> FORBIDDEN = List.of(
        "throw", "throws", "try", "catch", "synchronized", "assert", "package", "Random", "Thread",
        "currentTimeMillis", "nanoTime", "hashCode", "protected", "->", "::");

    public static void main(String[] args) throws IOException {
        theClassIsFinal();
        theMethodsAreThoseOfTheDocument();
        theFieldsAreThoseOfTheDocument();
        theClassesInsideAreStatic();
        theSourceKeepsToTheLanguage();
        CHECK.finish();
    }

    private static void theClassIsFinal() {
        int bits = SectorDocument.class.getModifiers();
        CHECK.due("public", Modifier.isPublic(bits), true);
        CHECK.due("final", Modifier.isFinal(bits), true);
        Constructor<?>[] made = SectorDocument.class.getDeclaredConstructors();
        CHECK.due("constructors", made.length, 1);
        CHECK.due("its parameters", made[0].getParameterCount(), 0);
        CHECK.due("it is public", Modifier.isPublic(made[0].getModifiers()), true);
    }

    private static void theMethodsAreThoseOfTheDocument() {
        TreeSet<String> open = new TreeSet<>();
        TreeSet<String> names = new TreeSet<>();
        for (Method method : SectorDocument.class.getDeclaredMethods()) {
            String types = Arrays.toString(method.getParameterTypes()).replace("[", "(").replace("]", ")");
            if (!Modifier.isPrivate(method.getModifiers())) {
                open.add(method.getReturnType() + " " + method.getName() + types);
                names.add(method.getName());
                CHECK.due(method.getName() + " is public", Modifier.isPublic(method.getModifiers()), true);
            }
        }
        CHECK.due("methods are " + open, open.equals(new TreeSet<>(FACE)), true);
        for (Method method : SectorDocument.class.getDeclaredMethods()) {
            boolean clash = Modifier.isPrivate(method.getModifiers()) && names.contains(method.getName());
            CHECK.due("a private " + method.getName() + " beside a public one", clash, false);
        }
    }

    private static void theFieldsAreThoseOfTheDocument() {
        TreeSet<String> open = new TreeSet<>();
        for (Field field : SectorDocument.class.getDeclaredFields()) {
            int bits = field.getModifiers();
            if (!Modifier.isPrivate(bits)) {
                open.add(Modifier.toString(bits) + " " + field.getType() + " " + field.getName());
            }
            CHECK.due(field.getName() + " is static and not final",
                Modifier.isStatic(bits) && !Modifier.isFinal(bits), false);
        }
        TreeSet<String> want = new TreeSet<>(
            List.of("public static final int NONE", "public static final long NO_WORD"));
        CHECK.due("fields are " + open, open.equals(want), true);
    }

    private static void theClassesInsideAreStatic() {
        Class<?>[] inside = SectorDocument.class.getDeclaredClasses();
        CHECK.due("some twelve classes", inside.length <= 14, true);
        for (Class<?> one : inside) {
            CHECK.due(one.getName() + " is static", Modifier.isStatic(one.getModifiers()), true);
            CHECK.due(one.getName() + " has some twenty fields", one.getDeclaredFields().length <= 24, true);
            for (Method method : one.getDeclaredMethods()) {
                CHECK.due(method.getName() + " has at most seven parameters", method.getParameterCount() <= 7, true);
            }
        }
    }

    private static void theSourceKeepsToTheLanguage() throws IOException {
        String source = Files.readString(Path.of("src/main/java/SectorDocument.java"));
        String code = source.replaceAll("(?s)/\\*.*?\\*/", "").replaceAll("//[^\n]*", "");
        code = code.replaceAll("\\b(case [^;{]*?|default)\\s*->", "");
        for (String word : FORBIDDEN) {
            boolean isName = Character.isLetter(word.charAt(0));
            String edge = isName ? "\\b" : "";
            boolean found = Pattern.compile(edge + Pattern.quote(word) + edge).matcher(code).find();
            CHECK.due("the source has " + word, found, false);
        }
    }
}
