import java.io.IOException;
import java.net.URL;
import java.net.URLClassLoader;
import java.nio.file.Files;
import java.nio.file.Path;
import java.util.ArrayList;
import java.util.List;
import java.util.regex.Matcher;
import java.util.regex.Pattern;
import javax.tools.ToolProvider;

/**
 * README.md, held against the class and the document: each call of its example answers what stands behind it,
 * and its table has every call of the document, in order, with the refusals that the document tells.
 */
public final class ReadmeTest extends Asking {
    private static final Pattern EXAMPLE = Pattern.compile("```java\n(.*?)```", Pattern.DOTALL);
    private static final Pattern ANSWERED = Pattern.compile("(x\\.\\w+\\(.*\\)); +// (-?\\d+|[A-Z]+)\\b.*");
    private static final Pattern ROW = Pattern.compile("\\| `(\\w+)\\((.*?)\\)` \\|.*\\| ?([A-Z, ]*)\\|");
    private static final Pattern PROMISE = Pattern.compile("`(?:int|long) (\\w+)\\((.*?)\\)`: (.*)");
    private static final Pattern REFUSAL = Pattern.compile("\\b(UNKNOWN|OUTSIDE|STATE|FULL)\\b");

    /** For the class that the example becomes: it has a loader of its own, so it can't see what is not public. */
    public static void answers(String call, long got, long want) {
        due("README.md's example: " + call, got, want);
    }

    private static String exampleAsClass(String readme) {
        Matcher example = EXAMPLE.matcher(readme);
        due("README.md has an example", example.find());
        StringBuilder source = new StringBuilder("public final class Example {\npublic static void main(String[] args) {\n");
        int answers = 0;
        for (String line : example.group(1).split("\n")) {
            Matcher call = ANSWERED.matcher(line);
            if (call.matches()) {
                answers++;
                String want = call.group(2).matches("[A-Z]+") ? "WolfCalendar." + call.group(2) : call.group(2);
                line = "ReadmeTest.answers(\"" + call.group(1) + "\", " + call.group(1) + ", " + want + ");";
            }
            source.append(line).append('\n');
        }
        due("the example has answers", answers > 20);
        return source.append("}\n}\n").toString();
    }

    private static void runExample(String source) throws IOException, ReflectiveOperationException {
        Path folder = Files.createTempDirectory("readme");
        Path file = Files.writeString(folder.resolve("Example.java"), source);
        Path compiled = folder.resolve("Example.class");
        String path = System.getProperty("java.class.path");
        int failed = ToolProvider.getSystemJavaCompiler().run(null, null, null, "-cp", path, "-d", folder.toString(), file.toString());
        due("the example is compiled", failed, 0);
        if (failed == 0) {
            try (URLClassLoader loader = new URLClassLoader(new URL[] {folder.toUri().toURL()})) {
                loader.loadClass("Example").getMethod("main", String[].class).invoke(null, (Object) new String[0]);
            }
        }
        Files.deleteIfExists(compiled);
        Files.delete(file);
        Files.delete(folder);
    }

    private static List<String> refusalsIn(String text) {
        List<String> refusals = new ArrayList<>();
        Matcher found = REFUSAL.matcher(text);
        while (found.find()) refusals.add(found.group());
        return refusals;
    }

    /** "int code, boolean hunted" is "code, hunted". */
    private static String namesOf(String parameters) {
        return parameters.replaceAll("(int|boolean) ", "");
    }

    private static List<String> rows(Pattern pattern, String text) {
        List<String> rows = new ArrayList<>();
        Matcher row = pattern.matcher(text);
        while (row.find()) rows.add(row.group(1) + "(" + namesOf(row.group(2)) + ") " + refusalsIn(row.group(3)));
        return rows;
    }

    public static void main(String[] args) throws IOException, ReflectiveOperationException {
        String readme = Files.readString(Path.of("README.md"));
        List<String> promised = rows(PROMISE, Files.readString(Path.of("../shared/DOC.md")));
        List<String> told = rows(ROW, readme);
        due("calls in the document", promised.size(), 27);
        due("calls in README.md", told.size(), promised.size());
        for (int n = 0; n < Math.min(promised.size(), told.size()); n++) {
            due("README.md tells " + told.get(n) + ", the document " + promised.get(n), told.get(n).equals(promised.get(n)));
        }
        runExample(exampleAsClass(readme));
        close();
    }
}
