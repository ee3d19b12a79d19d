import java.io.IOException;
import java.nio.file.Files;
import java.nio.file.Path;
import java.util.TreeSet;
import java.util.regex.Matcher;
import java.util.regex.Pattern;
import java.util.stream.Stream;

/** README.md: its example answers what it says, it names each test, and the paths that it names are there. */
public final class ReadmeTest {
    private static final Path TESTS = Path.of("src/test/java");
    private static final Pattern ROW = Pattern.compile("x\\.(\\w+\\([^)]*\\)); +// (-?\\d+): .+");

    public static void main(String[] args) throws IOException {
        Check.about("README.md");
        String page = Files.readString(Path.of("README.md"));
        exampleAnswersAsItSays(page);
        Check.due("the tests that it names", testsThere().toString(), found("`(\\w+Test)`", page).toString());
        for (String path : found("((?:\\.\\./shared|src)/[\\w/]+\\.\\w+|\\.ci/run)", page)) {
            Check.due(path + " is there", 1, Files.exists(Path.of(path)) ? 1 : 0);
        }
        Check.end();
    }

    private static void exampleAnswersAsItSays(String page) {
        int start = page.indexOf("```java\n");
        int end = page.indexOf("```", start + 3);
        String example = start < 0 || end < 0 ? "" : page.substring(start + "```java\n".length(), end);
        Run run = new Run();
        int rows = 0;
        for (String line : example.split("\n")) {
            Matcher row = ROW.matcher(line);
            if (row.matches()) {
                run.due(row.group(1), row.group(2));
                rows++;
            } else {
                Check.due("a line that asks for nothing", "DesertIsCounted x = new DesertIsCounted();", line);
            }
        }
        Check.due("the example asks for something", 1, rows > 0 ? 1 : 0);
    }

    private static TreeSet<String> testsThere() throws IOException {
        TreeSet<String> there = new TreeSet<>();
        try (Stream<Path> files = Files.list(TESTS)) {
            files.map(file -> file.getFileName().toString()).filter(name -> name.endsWith("Test.java"))
                .forEach(name -> there.add(name.substring(0, name.length() - ".java".length())));
        }
        return there;
    }

    private static TreeSet<String> found(String pattern, String page) {
        TreeSet<String> found = new TreeSet<>();
        Matcher matcher = Pattern.compile(pattern).matcher(page);
        while (matcher.find()) {
            found.add(matcher.group(1));
        }
        return found;
    }
}
