import java.io.IOException;
import java.nio.charset.StandardCharsets;
import java.nio.file.Files;
import java.nio.file.Path;
import java.util.List;
import java.util.regex.Matcher;
import java.util.regex.Pattern;

/** The source of the class keeps to those rules of LANGUAGE.md that can be seen by a look at its text. */
public final class SourceTest {
    private static final Check CHECK = new Check("source");
    private static final Path SOURCE = Path.of("src/main/java/GridTable.java");
    // A try with catches is in the rules, but the class needs none.
    private static final String[] NOT_IN_IT = {"^package", "^import", "->", "::", "\\btry\\b", "\\bcatch\\b",
        "\\bfinally\\b", "\\bassert\\b", "\\bsynchronized\\b", "\\bSystem\\.(?!arraycopy)", "\\bMath\\.\\w+Exact", "\\bequals\\(",
        "\\bhashCode\\b", "\\btoString\\b", "\\bprotected\\b", "\\bstatic \\{", "\\bThread\\b", "\" \\+", "\\+ \"",
        "\\bvar\\b", "\\b(Object|Exception|Throwable|Error)\\b"};

    private SourceTest() {
    }

    public static void main(String[] args) throws IOException {
        byte[] bytes = Files.readAllBytes(SOURCE);
        int strange = 0;
        for (byte sign : bytes) {
            strange += sign == '\n' || sign >= 32 && sign < 127 ? 0 : 1;
        }
        CHECK.due("signs that are not ASCII", strange, 0);
        String source = new String(bytes, StandardCharsets.US_ASCII);
        String code = source.replaceAll("(?s)/\\*.*?\\*/", "").replaceAll("(?m)//.*$", "");
        for (String pattern : NOT_IN_IT) {
            CHECK.due("found: " + pattern, found(code, pattern), 0);
        }
        exceptions(code);
        CHECK.due("static fields that are not final", found(code, "\\bstatic (?!final)[\\w\\[\\]]+ \\w+( =|;)"), 0);
        CHECK.due("classes, at most twelve", Math.max(12, found(code, "\\b(class|record|enum|interface) \\w+")), 12);
        lengths(List.of(source.split("\n")));
        CHECK.end();
    }

    private static int found(String code, String pattern) {
        Matcher matcher = Pattern.compile(pattern, Pattern.MULTILINE).matcher(code);
        int found = 0;
        while (matcher.find()) {
            found++;
        }
        return found;
    }

    /** Each throw makes one of the exceptions of the document, with a written text. */
    private static void exceptions(String code) {
        String named = "throw new (IllegalState|IllegalArgument|IndexOutOfBounds)Exception\\(\"[^\"]+\"\\);";
        CHECK.due("throws as the document names them", found(code, "\\bthrow\\b"), found(code, named));
    }

    private static void lengths(List<String> lines) {
        int start = 0;
        for (int i = 0; i < lines.size(); i++) {
            String line = lines.get(i);
            if (line.matches("    (    )?[\\w\\[\\]].*\\) ?(throws .*)?\\{")) {
                start = i;
            }
            if (line.matches("    (    )?\\}")) {
                CHECK.due("lines of the method at line " + (start + 1), Math.max(60, i - start + 1), 60);
                start = i;
            }
            CHECK.due("signs in line " + (i + 1) + ", at most 120", Math.max(120, line.length()), 120);
        }
    }
}
