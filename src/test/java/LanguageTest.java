import java.io.IOException;
import java.nio.file.Files;
import java.nio.file.Path;
import java.util.regex.Matcher;
import java.util.regex.Pattern;

/** The rules of LANGUAGE.md that can be seen in the text; run from the project's folder. */
public final class LanguageTest {
    private static final String[] RULED_OUT = {
        "\\b(throw|throws|try|catch|finally|synchronized|assert|import|package|native|volatile|transient)\\b",
        "\\b(equals|hashCode|toString|getClass|System\\.(out|in|err|nanoTime|currentTimeMillis|identityHashCode))\\b",
        "\\b\\w+Exact\\b", "->", "::", "\\bstatic\\s*\\{", "\\b(Thread|Random|Object|double|float|var)\\b",
        "while\\s*\\(\\s*true", "for\\s*\\(\\s*;\\s*;",
    };
    private static final Pattern LIBRARY = Pattern.compile("\\b(Integer|Long|Math|System|Arrays)\\.(\\w+)");

    public static void main(String[] args) throws IOException {
        Check check = new Check();
        String text = Files.readString(Path.of("src/main/java/TripleTrap.java"));
        String code = text.replaceAll("(?s)/\\*.*?\\*/", "").replaceAll("//[^\n]*", "");
        for (String pattern : RULED_OUT) {
            Matcher found = Pattern.compile(pattern).matcher(code);
            check.holds("ruled out: " + pattern, !found.find());
        }
        Matcher library = LIBRARY.matcher(code);
        while (library.find()) {
            check.holds("library: " + library.group(), library.group().equals("Integer.bitCount"));
        }
        check.holds("plain signs alone", text.chars().allMatch(c -> c == '\n' || c >= 32 && c < 127));
        check.holds("at most twelve classes", code.split("\\bclass\\b").length - 1 <= 12);
        check.end();
    }
}
