import java.io.IOException;
import java.nio.file.Files;
import java.nio.file.Path;
import java.util.regex.Matcher;
import java.util.regex.Pattern;

/** Looks in the source for what LANGUAGE.md rules out, as far as a search for words can tell. */
public final class LanguageTest {
    private static final String[] RULED_OUT = {
        "->", "::", "\\bcatch\\b", "\\bfinally\\b", "\\btry\\b", "\\bassert\\b", "\\bsynchronized\\b",
        "\\bimport\\b", "\\bpackage\\b", "\\bDouble\\.", "\\bFloat\\.", "Exact\\(", "\\.equals\\(",
        "\\.hashCode\\(", "\\.toString\\(", "\\bvar\\b", "\\bSystem\\.(?!arraycopy)", "\\bThread\\b",
        "\\bstatic(?! final (int|long|boolean|char|String|class)\\b)(?! (int|long|boolean|void) \\w+\\()"
            + "(?! final int\\[\\])",
        "static final (double|float)", "\\bstatic \\{", "\\bprotected\\b", "\\bNaN\\b", "[^\\x00-\\x7f]",
    };
    private static final int LONGEST_METHOD = 60;

    private LanguageTest() {
    }

    public static void main(String[] args) throws IOException {
        String source = Files.readString(Path.of("src/main/java/CorkPermits.java"));
        String code = source.replaceAll("(?s)/\\*.*?\\*/", "").replaceAll("//[^\n]*", "");
        for (String word : RULED_OUT) {
            Matcher found = Pattern.compile(word).matcher(code);
            Check.same("places of " + word, 0, found.find() ? 1 : 0);
        }
        lookForLongMethods(code);
        Check.end();
    }

    private static void lookForLongMethods(String code) {
        int start = -1;
        String end = "";
        String[] lines = code.split("\n");
        for (int at = 0; at < lines.length; at++) {
            Matcher head = Pattern.compile("^( {4}| {8})[a-z].*\\).*\\{$").matcher(lines[at]);
            if (start < 0 && head.find()) {
                start = at;
                end = head.group(1) + "}";
            }
            if (start >= 0 && lines[at].equals(end)) {
                Check.same("line " + lines[start] + " begins too long a method", 0,
                        at - start > LONGEST_METHOD ? 1 : 0);
                start = -1;
            }
        }
    }
}
