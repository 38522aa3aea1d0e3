import java.io.IOException;
import java.nio.file.Files;
import java.nio.file.Path;
import java.util.List;
import java.util.Set;
import java.util.TreeSet;
import java.util.regex.MatchResult;
import java.util.regex.Pattern;
import java.util.stream.Collectors;

/** Rules of LANGUAGE.md that the program's text shows; FaceTest and RoomTest look at rules 1 and 12. */
public final class LanguageTest {
    private static final Pattern METHOD = Pattern.compile("(?m)^(?: {4}| {8})((?:(?:public|private|static) )*)"
            + "(?:[a-zA-Z]+(?:\\[\\])? )?([a-zA-Z]+)\\(([^)]*)\\)[^;{]*\\{$([\\s\\S]*?)^(?: {4}| {8})\\}$");
    private static final Pattern LIBRARY = Pattern.compile("\\b(System|Arrays|Math|Integer|Long|String)\\.(\\w+)");
    private static final Pattern THROWN = Pattern.compile("throw new (\\w+)\\(");
    private static final Pattern STATIC_FIELD =
            Pattern.compile("(?m)^ +private static (?:final )?[\\w\\[\\]]+ \\w+ = ");
    private static final Check CHECK = new Check();

    public static void main(String[] args) throws IOException {
        String source = Files.readString(Path.of("src/main/java/CurveKeys.java"));
        String code = source.replaceAll("(?s)/\\*.*?\\*/", "").replaceAll("\"[^\"]*\"", "\"\"");
        CHECK.due("characters beyond 127", source.chars().anyMatch(c -> c > 127), false);
        onlyTheListedLibrary(code);
        noForbiddenWords(code);
        staticFieldsAreFinal(code);
        methodsAreShort(code);
        CHECK.finish();
    }

    private static Set<String> found(Pattern pattern, String code, String form) {
        return pattern.matcher(code).results().map(m -> expand(m, form)).collect(Collectors.toCollection(TreeSet::new));
    }

    private static String expand(MatchResult match, String form) {
        String expanded = form;
        for (int i = 1; i <= match.groupCount(); i++) {
            expanded = expanded.replace("$" + i, match.group(i));
        }
        return expanded;
    }

    private static void onlyTheListedLibrary(String code) {
        Set<String> imported = found(Pattern.compile("import ([\\w.*]+);"), code, "$1");
        CHECK.due("imports", imported, Set.of("java.util.Arrays", "java.util.NoSuchElementException"));
        Set<String> called = found(LIBRARY, code, "$1.$2");
        called.removeAll(Set.of("System.arraycopy", "Arrays.copyOf", "Arrays.fill", "Math.min"));
        CHECK.due("other library calls", called, Set.of());
        Set<String> thrown = found(THROWN, code, "$1");
        CHECK.due("thrown", thrown, Set.of("IllegalStateException", "IllegalArgumentException",
                "IndexOutOfBoundsException", "NoSuchElementException"));
    }

    private static void noForbiddenWords(String code) {
        for (String word : List.of("->", "::", "synchronized", "assert", "try", "catch", "finally", "package",
                "interface", "float", "double", "volatile", "native", "transient")) {
            String pattern = Character.isLetter(word.charAt(0)) ? "\\b" + word + "\\b" : word;
            CHECK.due("the program says " + word, Pattern.compile(pattern).matcher(code).find(), false);
        }
        CHECK.due("static blocks", Pattern.compile("static\\s*\\{").matcher(code).find(), false);
    }

    private static void staticFieldsAreFinal(String code) {
        Set<String> fields = new TreeSet<>();
        STATIC_FIELD.matcher(code).results().forEach(m -> fields.add(m.group().trim()));
        CHECK.due("static fields were seen", fields.size() > 20, true);
        for (String field : fields) {
            CHECK.due(field, field.matches("private static final (int|long|int\\[\\]|long\\[\\]) [A-Z0-9_]+ ="), true);
        }
    }

    private static void methodsAreShort(String code) {
        Set<String> face = new TreeSet<>();
        Set<String> others = new TreeSet<>();
        METHOD.matcher(code).results().forEach(m -> {
            (m.group(1).startsWith("public") ? face : others).add(m.group(2));
            CHECK.due(m.group(2) + " has at most seven parameters", m.group(3).split(",").length <= 7, true);
            CHECK.due(m.group(2) + " has at most sixty lines", m.group(4).lines().count() <= 60, true);
        });
        CHECK.due("methods of the face, and the constructor", face.size(), 13);
        CHECK.due("other methods were seen", others.size() > 50, true);
        others.retainAll(face);
        CHECK.due("other methods with a name of the face", others, Set.of());
    }
}
