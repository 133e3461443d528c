import java.io.IOException;
import java.nio.file.DirectoryStream;
import java.nio.file.Files;
import java.nio.file.Path;
import java.util.regex.Matcher;
import java.util.regex.Pattern;

/**
 * README.md's example is true of the class: each line of it is a call with its answer behind "//". The paths of
 * WireBoard.java and of README.md are the arguments.
 */
public final class ReadmeTest {
    private static final Pattern CALL = Pattern.compile("board\\.(\\w+\\(.*\\)); +// (.+)");

    public static void main(String[] args) throws IOException {
        String readme = Files.readString(Path.of(args.length > 1 ? args[1] : "README.md"));
        example(readme);
        tests(readme, Path.of(args.length > 2 ? args[2] : "src/test/java"));
        Script.finish();
    }

    private static void example(String readme) {
        int start = readme.indexOf("```java\n");
        int end = readme.indexOf("\n```", start + 1);
        Script.check("README.md has an example", start >= 0 && end > start);
        StringBuilder calls = new StringBuilder();
        int count = 0;
        for (String line : readme.substring(start + 8, end).split("\n")) {
            Matcher call = CALL.matcher(line.trim());
            if (call.matches()) {
                calls.append(call.group(1)).append(" = ").append(call.group(2).trim()).append("; ");
                count++;
            } else {
                Script.check("a call with its answer, or none at all: " + line, line.isBlank()
                        || line.equals("WireBoard board = new WireBoard();"));
            }
        }
        Script.check("the example has calls", count > 0);
        Script.run("the example of README.md", calls.toString());
    }

    private static void tests(String readme, Path tests) throws IOException {
        Script.check("README.md tells how the tests are run", readme.contains(".ci/run"));
        try (DirectoryStream<Path> all = Files.newDirectoryStream(tests, "*Test.java")) {
            for (Path test : all) {
                String name = test.getFileName().toString().replace(".java", "");
                Script.check("README.md names " + name, readme.contains("`" + name + "`"));
            }
        }
    }
}
