import java.io.IOException;
import java.nio.file.Files;
import java.nio.file.Path;
import java.util.List;
import java.util.regex.Matcher;
import java.util.regex.Pattern;

/** What LANGUAGE.md forbids and a look at the text can find. */
public final class LanguageTest {
    private static final Path SOURCE = Path.of("src/main/java/ButtonRegistry.java");
    private static final int LONGEST_METHOD = 60;

    private LanguageTest() {
    }

    public static void main(String[] args) throws IOException {
        String text = Files.readString(SOURCE);
        String code = text.replaceAll("(?s)/\\*.*?\\*/", "").replaceAll("//[^\n]*", "");
        String bare = code.replaceAll("\"[^\"\n]*\"", "\"\"").replaceAll("'(\\\\.|[^'])'", "' '");
        String[] forbidden = {"->", "::", "\\btry\\b", "\\bcatch\\b", "\\bfinally\\b", "\\bsynchronized\\b",
            "\\bassert\\b", "\\bvar\\b", "\\bpackage\\b", "\\bnull\\b", "\" *\\+", "\\+ *\"", "Exact\\b", "\\bgetClass\\b",
            "\\bhashCode\\b", "\\bSystem\\.(?!arraycopy)", "\\bThread\\b", "static \\{", "\\.equals\\(", "\\bwhile \\(true",
            "\\bfor \\(;;", "import (?!java\\.util\\.(ArrayList|NoSuchElementException);)"};
        for (String part : forbidden) {
            Matcher matcher = Pattern.compile(part).matcher(bare);
            Check.same("no " + part, false, matcher.find());
        }
        Check.same("signs 1 to 127", true, text.chars().allMatch(sign -> sign > 0 && sign < 128));
        Matcher thrown = Pattern.compile("throw [^;]*;").matcher(code);
        while (thrown.find()) {
            Check.same(thrown.group(), true, thrown.group().matches("throw new (IllegalState|IllegalArgument"
                    + "|IndexOutOfBounds|Arithmetic|UnsupportedOperation|NoSuchElement)Exception\\(\"[a-z0-9 ]*\"\\);"));
        }
        shortMethods(Files.readAllLines(SOURCE));
        Check.finish();
    }

    private static void shortMethods(List<String> lines) {
        String method = "";
        int start = 0;
        for (int i = 0; i < lines.size(); i++) {
            String line = lines.get(i);
            Check.same("the length of line " + (i + 1), true, line.length() <= 120);
            if (line.matches(" {4}( {4})?[A-Za-z<].*\\(.*") && !line.contains(";")) {
                method = line.trim();
                start = i;
            }
            if (line.matches(" {4}( {4})?}")) {
                Check.same("the length of " + method, true, i - start <= LONGEST_METHOD || method.isEmpty());
                method = "";
            }
        }
    }
}
