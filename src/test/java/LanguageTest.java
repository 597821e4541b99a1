import java.io.IOException;
import java.nio.charset.StandardCharsets;
import java.nio.file.Files;
import java.nio.file.Path;
import java.util.regex.Matcher;
import java.util.regex.Pattern;

/** The rules of ../shared/LANGUAGE.md that can be read off the text; it is run in the project's folder. */
public final class LanguageTest {
    private static final Path FILE = Path.of("src", "main", "java", "TeaRace.java");
    private static final String[] RULED_OUT = {
        "\\b(throw|throws|try|catch|finally|synchronized|assert|package|protected|volatile|transient|native)\\b",
        "->", "::", "\\w+Exact\\b", "\\b(equals|hashCode|toString)\\s*\\(", "\\bstatic\\s*\\{", "\\bNaN\\b",
        "\\bstatic (?!final|int |long |boolean |class )\\w", "\\bSystem\\.(?!arraycopy\\b)", "\\bObject\\b",
        "\\bArrays\\.(?!fill\\b|copyOf\\b|copyOfRange\\b)", "\\bMath\\.(?!max\\b|min\\b|abs\\b|floorMod\\b|floorDiv\\b)",
        "\\bimport (?!java\\.util\\.(ArrayList|Arrays|List);)", "\""};

    public static void main(String[] args) throws IOException {
        String text = Files.readString(FILE, StandardCharsets.ISO_8859_1);
        Check.holds("signs 1 to 127 alone", text.chars().allMatch(c -> c >= 1 && c <= 127));
        String code = text.replaceAll("(?s)/\\*.*?\\*/", "").replaceAll("//[^\n]*", "");
        for (String rule : RULED_OUT) {
            Matcher found = Pattern.compile(rule).matcher(code);
            Check.holds("ruled out: " + rule + (found.find() ? " at " + line(code, found.start()) : ""), !found.find(0));
        }
        Check.holds("at most twelve classes", times(code, "\\b(class|record|enum|interface)\\s+[A-Z]") <= 12);
        Check.due("classes inside are static", times(code, "\\bclass\\s"), 1 + times(code, "\\bstatic (final )?class\\s"));
        methods(code);
        Check.close("LanguageTest");
    }

    private static String line(String code, int at) {
        int begin = code.lastIndexOf('\n', at) + 1;
        int end = code.indexOf('\n', at);
        return code.substring(begin, end < 0 ? code.length() : end).trim();
    }

    private static int times(String code, String pattern) {
        return (int) Pattern.compile(pattern).matcher(code).results().count();
    }

    /** Each method's head ends with a brace, and its body with one that stands as far in. */
    private static void methods(String code) {
        Matcher head = Pattern.compile("(?m)^( +)(?!.*\\b(new|return|else)\\b)[\\w<>\\[\\] ]+\\(([^()]*)\\) \\{$").matcher(code);
        int seen = 0;
        while (head.find()) {
            int end = code.indexOf("\n" + head.group(1) + "}", head.start());
            int lines = times(code.substring(head.start(), end), "\n");
            Check.holds("at most sixty lines: " + head.group().trim(), lines <= 60);
            Check.holds("at most seven parameters: " + head.group().trim(), head.group(3).split(",").length <= 7);
            seen++;
        }
        Check.holds("methods are seen", seen > 29);
    }
}
