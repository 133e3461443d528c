import java.io.IOException;
import java.nio.file.Files;
import java.nio.file.Path;
import java.util.regex.Matcher;
import java.util.regex.Pattern;

/** What a look at the source can tell of LANGUAGE.md; the path of WireBoard.java is the argument. */
public final class LanguageTest {
    private static final String[] FORBIDDEN = {
        "\\)\\s*->", "(?<!case )\\b(?!default\\b)[a-z]\\w*\\s*->", "::", "\\bfinally\\b", "\\bsynchronized\\b", "\\bassert\\b",
        "\\bpackage\\b", "\\bprotected\\b", "\\bSystem\\.(?!arraycopy)", "\\bMath\\.\\w*Exact", "\\bObject\\b",
        "\\bThread\\b", "\\bRandom\\b", "\\bimport java\\.(?!util\\.(NoSuchElementException|ArrayList|List|Arrays|Iterator);)",
        "\\bwhile\\s*\\(true", "\\bfor\\s*\\(;;", "\\bString\\.format", "\\bhashCode\\b", "\\btoString\\b(?!\\(\\))",
        "static\\s*\\{", "[^\\x00-\\x7f]", "\\bNullPointerException\\b", "\\bClassCastException\\b",
        "\\bArrayIndexOutOfBoundsException\\b", "\\bNegativeArraySizeException\\b", "\\bArrayStoreException\\b",
        "catch\\s*\\(\\s*(Throwable|Exception|RuntimeException|Error)\\b",
    };

    public static void main(String[] args) throws IOException {
        Path path = Path.of(args.length > 0 ? args[0] : "src/main/java/WireBoard.java");
        String source = Files.readString(path);
        String code = source.replaceAll("(?s)/\\*.*?\\*/", "").replaceAll("//[^\\n]*", "")
                .replaceAll("\"[^\"\\n]*\"", "\"\"");
        for (String pattern : FORBIDDEN) {
            Matcher matcher = Pattern.compile(pattern).matcher(code);
            Script.check("the source has no " + pattern, !matcher.find());
        }
        throwsOf(code);
        methods(code);
        Script.finish();
    }

    private static void throwsOf(String code) {
        Matcher matcher = Pattern.compile("\\bthrow\\b[^;]*;").matcher(code);
        while (matcher.find()) {
            Script.check("an exception of rule 6, with a written text: " + matcher.group(), matcher.group().matches("throw new (IllegalState|"
                    + "IllegalArgument|IndexOutOfBounds|Arithmetic|UnsupportedOperation|NoSuchElement|Runtime)"
                    + "Exception\\((\"\")?\\);"));
        }
    }

    private static void methods(String code) {
        Matcher head = Pattern.compile("(?m)^( +)[\\w\\[\\] ]+\\(([^()]*)\\)[\\w, ]*\\{$").matcher(code);
        int count = 0;
        while (head.find()) {
            int end = code.indexOf("\n" + head.group(1) + "}", head.end());
            long length = end < 0 ? 1000 : code.substring(head.start(), end).lines().count();
            boolean isFew = head.group(2).isEmpty() || head.group(2).split(",").length <= 7;
            Script.check("short: " + head.group().trim(), length <= 60 && isFew);
            count++;
        }
        Script.check("methods were found", count > 33);
    }
}
