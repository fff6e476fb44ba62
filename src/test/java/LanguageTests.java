import java.io.IOException;
import java.nio.file.Files;
import java.nio.file.Path;
import java.util.List;
import java.util.regex.Matcher;
import java.util.regex.Pattern;

/** The rules of ../shared/LANGUAGE.md that a look at the words of the program can test. */
public final class LanguageTests {
    private static final Checks CHECKS = new Checks();

    /** Blanks comments and written texts, so that their words do not count. */
    private static String codeOf(String source) {
        String noTexts = source.replaceAll("\"(?:[^\"\\\\\n]|\\\\.)*\"", "\"\"");
        return noTexts.replaceAll("(?s)/\\*.*?\\*/", "").replaceAll("//[^\n]*", "");
    }

    private static int count(String code, String pattern) {
        Matcher matcher = Pattern.compile(pattern).matcher(code);
        int count = 0;
        while (matcher.find()) {
            count++;
        }
        return count;
    }

    private static void forbiddenWords(String code) {
        CHECKS.about("LANGUAGE.md, words");
        String[] forbidden = {
            "->", "::", "\\btry\\b", "\\bcatch\\b", "\\bfinally\\b", "\\bsynchronized\\b",
            "\\bassert\\b", "\\bprotected\\b", "\\bSystem\\.(?!arraycopy)", "\\bThread\\b",
            "\\bRandom\\b", "Exact\\(", "\\bequals\\(", "\\bhashCode\\b", "\\btoString\\b",
            "\\bstatic\\s*\\{", "\\bpackage\\b", "\\.\\.\\.", "\"\\s*\\+", "\\+\\s*\"",
        };
        for (String word : forbidden) {
            CHECKS.due("the count of " + word, count(code, word), 0);
        }
        CHECKS.due("imports", count(code, "(?m)^import "), 1);
        CHECKS.due("the import", count(code, "(?m)^import java\\.util\\.Arrays;$"), 1);
        CHECKS.due("signs beyond 127", count(code, "[^\\x00-\\x7f]"), 0);
    }

    private static void exceptions(String code) {
        CHECKS.about("LANGUAGE.md, rule 6");
        int all = count(code, "\\bthrow\\b");
        int plain = count(code, "\\bthrow new (IndexOutOfBounds|IllegalArgument|IllegalState)Exception\\(\"\"\\);");
        CHECKS.due("throws of the document's exceptions", plain, all);
    }

    private static void staticFields(String code) {
        CHECKS.about("LANGUAGE.md, rule 5");
        int all = count(code, "(?m)^\\s+(public |private )?static [^(\\n]*(=|;)");
        int constants = count(code, "(?m)^\\s+(public|private) static final (int|String) [A-Z_]+ = ");
        CHECKS.due("constants among the static fields", constants, all);
        int classes = count(code, "\\bclass ");
        int inside = count(code, "(?m)^    private static final class ");
        CHECKS.due("private static final classes inside", inside, classes - 1);
        CHECKS.due("at most twelve classes", classes <= 12, true);
    }

    private static void lengths(List<String> lines) {
        CHECKS.about("LANGUAGE.md, rule 11");
        int begin = 0;
        for (int i = 0; i < lines.size(); i++) {
            String line = lines.get(i);
            if (line.matches("^ {4,8}[a-z].*[({,]$") && !line.contains(" class ")) {
                begin = i;
            }
            if (line.matches("^ {4}(    )?}$") && i - begin > 60) {
                CHECKS.due("the length of the method in line " + (begin + 1), i - begin, 60);
            }
        }
        CHECKS.due("lines", lines.size() > 100, true);
    }

    public static void main(String[] args) throws IOException {
        Path program = Path.of(System.getProperty("program", "src/main/java/ForeignKeyStore.java"));
        String code = codeOf(Files.readString(program));
        forbiddenWords(code);
        exceptions(code);
        staticFields(code);
        lengths(Files.readAllLines(program));
        CHECKS.end("LanguageTests");
    }
}
