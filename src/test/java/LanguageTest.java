import java.nio.file.Files;
import java.nio.file.Path;
import java.util.regex.Matcher;
import java.util.regex.Pattern;

/** Those rules of ../shared/LANGUAGE.md that the text of the program shows; run from the project's root. */
public final class LanguageTest {
    private static final String[] BARRED = {
        "\\bimport\\b", "\\bpackage\\b", "\\bthrow\\b", "\\bthrows\\b", "\\btry\\b", "\\bcatch\\b", "\\bassert\\b",
        "\\bsynchronized\\b", "->", "::", "Exact\\s*\\(", "\\bstatic\\s*\\{", "\\bnew\\s+\\w+\\s*\\([^)]*\\)\\s*\\{",
        "\\bequals\\b", "\\bhashCode\\b", "\\btoString\\b", "\\bprotected\\b", "\\bObject\\b", "\\bSystem\\.(?!arraycopy)",
        "\\bThread\\b", "\\brandom\\b", "\\bvar\\b", "\\bthis\\b", "\\binstanceof\\b"};
    private static final Pattern HEAD =
        Pattern.compile("^    (?:    )?(?:public |private |static |final )*[A-Za-z\\[\\]]+ ?\\w*\\(([^)]*)\\) \\{$");

    public static void main(String[] args) throws Exception {
        String source = Files.readString(Path.of("src/main/java/ShodBackwards.java"));
        String bare = source.replaceAll("(?s)/\\*.*?\\*/", "").replaceAll("//[^\\n]*", "")
            .replaceAll("\"[^\"\\n]*\"", "\"\"").replaceAll("'[^'\\n]*'", "' '");
        for (String barred : BARRED) {
            Matcher matcher = Pattern.compile(barred).matcher(bare);
            Due.is("language: " + barred, matcher.find() ? 1 : 0, 0);
        }
        for (int i = 0; i < source.length(); i++) {
            Due.is("language: sign at " + i, source.charAt(i) < 127 ? 1 : 0, 1);
        }
        Due.is("language: classes", Pattern.compile("\\bclass\\b").matcher(bare).results().count() <= 12 ? 1 : 0, 1);
        methods(source.split("\n"));
        Due.end();
    }

    private static void methods(String[] lines) {
        int found = 0;
        for (int i = 0; i < lines.length; i++) {
            Matcher head = HEAD.matcher(lines[i]);
            if (!head.matches()) {
                continue;
            }
            found++;
            String parameters = head.group(1);
            Due.is("language: parameters of " + lines[i], parameters.split(",").length <= 7 ? 1 : 0, 1);
            String indent = lines[i].substring(0, lines[i].length() - lines[i].stripLeading().length());
            int end = i;
            while (!lines[end].equals(indent + "}")) {
                end++;
            }
            Due.is("language: lines of " + lines[i], end - i <= 60 ? 1 : 0, 1);
        }
        Due.is("language: methods found", found > 37 ? 1 : 0, 1);
    }
}
