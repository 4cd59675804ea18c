import java.io.IOException;
import java.nio.file.Files;
import java.nio.file.Path;
import java.util.regex.Matcher;
import java.util.regex.Pattern;

/** What can be seen of LANGUAGE.md in the text of the program: words that it may not hold. */
public final class RulesTest {
    private static final String[] FORBIDDEN = {
        "\\b(throw|throws|try|catch|synchronized|assert|package|protected|volatile|native)\\b",
        "\\bimport (?!java\\.util\\.(ArrayList|List|Arrays|Iterator);)", "->", "::", "\\b(Thread|Random|Object|hashCode|equals|toString|System\\.(?!arraycopy))\\b",
        "\\bstatic (?!final\\b)(?!int \\w+\\()(?!class\\b)", "\\bwhile *\\(true\\)", "\\w+Exact\\b"};

    public static void main(String[] args) throws IOException {
        String text = Files.readString(Path.of(System.getProperty("main")));
        String code = text.replaceAll("(?s)/\\*.*?\\*/", "").replaceAll("//[^\n]*", "");
        for (String rule : FORBIDDEN) {
            Matcher found = Pattern.compile(rule).matcher(code);
            while (found.find()) {
                Check.same("'" + found.group() + "' at " + found.start() + " is forbidden: found", 1, 0);
            }
        }
        Check.same("only characters 0 to 127", code.chars().allMatch(c -> c < 128), true);
        Check.end();
    }
}
