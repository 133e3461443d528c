import java.io.IOException;
import java.nio.file.Files;
import java.nio.file.Path;
import java.util.List;
import java.util.regex.Matcher;
import java.util.regex.Pattern;

/** What a look at the source can tell of LANGUAGE.md; the path of WireBoard.java is the argument. */
public final class LanguageTest {
    private static final String[] FORBIDDEN = {
        "->", "::", "\\bcatch\\b", "\\btry\\b", "\\bfinally\\b", "\\bsynchronized\\b", "\\bassert\\b", "\\bpackage\\b",
        "\\bprotected\\b", "\\bSystem\\.(?!arraycopy)", "\\bMath\\.\\w*Exact", "\\bObject\\b", "\\bThread\\b",
        "\\bRandom\\b", "\\bjava\\.(?!util\\.NoSuchElementException;)", "\\bnull\\b", "\\binstanceof\\b", "@\\w",
        "\\bwhile\\s*\\(true", "\\bfor\\s*\\(;;", "\\bString\\.format", "\\bhashCode\\b", "\\btoString\\b",
        "static\\s*\\{", "[^\\x00-\\x7f]", "\\t",
    };

    public static void main(String[] args) throws IOException {
        Path path = Path.of(args.length > 0 ? args[0] : "src/main/java/WireBoard.java");
        String source = Files.readString(path);
        String code = source.replaceAll("(?s)/\\*.*?\\*/", "").replaceAll("//[^\\n]*", "")
                .replaceAll("\"[^\"\\n]*\"", "\"\"");
        for (String pattern : FORBIDDEN) {
            Matcher matcher = Pattern.compile(pattern).matcher(code);
            Script.check("the source has no " + pattern, !matcher.find());
        }
        lines(source);
        methods(code);
        Script.finish();
    }

    private static void lines(String source) {
        List<String> lines = source.lines().toList();
        for (int i = 0; i < lines.size(); i++) {
            String line = lines.get(i);
            Script.check("line " + (i + 1) + " is short and has no blank at its end", line.length() <= 120
                    && line.equals(line.stripTrailing()));
            boolean isThrow = line.contains("throw new ");
            Script.check("line " + (i + 1) + " throws with a written text", !isThrow
                    || line.matches(" +throw new \\w+Exception\\(\"[^\"]+\"\\);"));
        }
    }

    private static void methods(String code) {
        Matcher head = Pattern.compile("(?m)^( +)[\\w\\[\\] ]+\\(([^()]*)\\)[\\w, ]*\\{$").matcher(code);
        int count = 0;
        while (head.find()) {
            int end = code.indexOf("\n" + head.group(1) + "}", head.end());
            long length = end < 0 ? 1000 : code.substring(head.start(), end).lines().count();
            boolean isFew = head.group(2).isEmpty() || head.group(2).split(",").length <= 7;
            Script.check("short: " + head.group().trim(), length <= 60 && isFew);
            count++;
        }
        Script.check("methods were found", count > 70);
    }
}
