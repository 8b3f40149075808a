import java.io.IOException;
import java.lang.reflect.Field;
import java.lang.reflect.Method;
import java.lang.reflect.Modifier;
import java.nio.file.Files;
import java.nio.file.Path;
import java.util.ArrayList;
import java.util.List;
import java.util.regex.MatchResult;
import java.util.regex.Pattern;

/** What README.md says of the class: its example is run, its tables are held beside the face and the document. */
public final class ReadmeTest {
    private static final Check CHECK = new Check("ReadmeTest");
    private static final Pattern ASKED = Pattern.compile("(?m)^x\\.(\\w+)\\(([^)]*)\\); +// (-?\\d+):");
    private static final Pattern ROW = Pattern.compile("(?m)^\\| `(\\w+)\\(([^)]*)\\)` \\| .* \\| (.*) \\|$");
    private static final Pattern REFUSAL = Pattern.compile("\\b(BAD|NOT|FULL|NONE|NULL|CAST|INDEX|SIZE)\\b");

    private ReadmeTest() {
    }

    /** A number, or a letter in quotes. */
    private static long number(String word) {
        return word.startsWith("'") ? word.charAt(1) : Long.parseLong(word);
    }

    private static void example(String readme) {
        BackYear x = new BackYear();
        List<MatchResult> lines = ASKED.matcher(readme).results().toList();
        for (MatchResult line : lines) {
            String[] words = line.group(2).isEmpty() ? new String[0] : line.group(2).split(", ");
            long[] args = new long[words.length];
            for (int k = 0; k < words.length; k++) {
                args[k] = number(words[k]);
            }
            Call call = new Call(line.group(1), args);
            CHECK.due(call.toString(), call.on(x), Long.parseLong(line.group(3)));
        }
        CHECK.due("lines of the example that ask", lines.size(), Pattern.compile("(?m)^x\\.").matcher(readme).results().count());
        CHECK.holds("the example asks some calls", lines.size() > 20);
    }

    /** Those that the words name, each once, in their order. */
    private static List<String> refusals(String words) {
        List<String> named = new ArrayList<>();
        REFUSAL.matcher(words).results().map(MatchResult::group).filter(name -> !named.contains(name)).forEach(named::add);
        return named;
    }

    /** The promise's words, behind the call's own line. */
    private static String promise(String document, String name) {
        Pattern words = Pattern.compile("(?s)## Promise \\d+: " + name + "\n\n`[^`]*`:(.*?)(?=\n## )");
        return words.matcher(document).results().map(found -> found.group(1)).findFirst().orElse("");
    }

    private static void row(String document, MatchResult row, Method method) {
        String name = method.getName();
        String promise = promise(document, name);
        CHECK.holds("the document has a promise of " + name, !promise.isEmpty());
        int told = row.group(2).isEmpty() ? 0 : row.group(2).split(", ").length;
        CHECK.due("numbers told to " + name, told, method.getParameterCount());
        CHECK.holds(name + " is refused as the document names: " + refusals(promise) + ", not " + row.group(3),
            refusals(row.group(3)).equals(refusals(promise)));
        boolean less = row.group(3).contains("less 100000");
        CHECK.holds(name + ": 100000 less, or not", less == promise.toLowerCase().contains("less 100000"));
    }

    private static void tables(String readme, String document) {
        List<MatchResult> rows = ROW.matcher(readme).results().toList();
        int calls = 0;
        for (Method method : BackYear.class.getDeclaredMethods()) {
            if (Modifier.isPublic(method.getModifiers())) {
                calls++;
                List<MatchResult> its = rows.stream().filter(row -> row.group(1).equals(method.getName())).toList();
                CHECK.due("rows of " + method.getName(), its.size(), 1);
                its.forEach(row -> row(document, row, method));
            }
        }
        CHECK.due("rows of calls", rows.size(), calls);
    }

    private static void constants(String readme) throws IllegalAccessException {
        for (Field field : BackYear.class.getFields()) {
            String row = "| `" + field.getName() + "` | " + field.getInt(null) + " |";
            CHECK.holds("the page has " + row, readme.contains(row));
        }
    }

    private static void tests(String readme) throws IOException {
        try (var files = Files.list(Path.of("src/test/java"))) {
            for (Path file : files.toList()) {
                String name = file.getFileName().toString().replace(".java", "");
                CHECK.holds("the page tells of `" + name + "`", readme.contains("`" + name + "`"));
            }
        }
    }

    public static void main(String[] args) throws IOException, IllegalAccessException {
        String readme = Files.readString(Path.of("README.md"));
        String document = Files.readString(Path.of("../shared/DOC.md"));
        example(readme);
        tables(readme, document);
        constants(readme);
        tests(readme);
        CHECK.end();
    }
}
