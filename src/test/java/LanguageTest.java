import java.io.IOException;
import java.nio.charset.StandardCharsets;
import java.nio.file.Files;
import java.nio.file.Path;
import java.util.regex.Matcher;
import java.util.regex.Pattern;

/** Words and signs that LANGUAGE.md rules out do not stand in the class (its path is the property "source"). */
public final class LanguageTest {
    private static final String[] RULED_OUT = {
        "\\b(throw|throws|try|catch|finally|synchronized|assert|volatile|native|transient|package|protected)\\b",
        "->", "::", "@", "\\bstatic\\s*\\{", "\\b\\w*Exact\\b", "\\bobject\\b", "\\bObject\\b",
        "\\b(equals|hashCode|toString|getClass|finalize|wait|notify)\\s*\\(",
        "\\b(System|Math|Arrays|Integer|Long)\\s*\\.\\s*(?!(arraycopy|max|min|abs|bitCount|compare|floorDiv|floorMod"
            + "|copyOf|copyOfRange|fill|MIN_VALUE|MAX_VALUE)\\b)",
        "\\bimport\\s+(?!java\\.util\\.(Arrays|ArrayList|List|Iterator);)",
        "\\bclass\\b(?<!(public|private static) final class)", "[^\\x00-\\x7f]", "\\[\\]\\s*\\[\\]\\s*\\[\\]",
    };

    public static void main(String[] args) throws IOException {
        Check.part("LANGUAGE.md");
        String source = Files.readString(Path.of(System.getProperty("source", "src/main/java/BuildEngine.java")),
            StandardCharsets.UTF_8);
        String code = withoutComments(source);
        for (String pattern : RULED_OUT) {
            Matcher matcher = Pattern.compile(pattern).matcher(code);
            Check.isTrue("ruled out: " + pattern, !matcher.find());
        }
        methodLengths(source.split("\n"));
        int classes = 0;
        Matcher matcher = Pattern.compile("\\bclass\\b").matcher(code);
        while (matcher.find()) {
            classes++;
        }
        Check.isTrue("some twelve classes at most, found " + classes, classes <= 12);
        Check.end();
    }

    private static String withoutComments(String source) {
        return source.replaceAll("(?s)/\\*.*?\\*/", " ").replaceAll("//[^\n]*", " ");
    }

    /** By the file's own indentation: a method begins 4 or 8 blanks in and ends with a brace just as far in. */
    private static void methodLengths(String[] lines) {
        for (int i = 0; i < lines.length; i++) {
            String line = lines[i];
            int indent = line.length() - line.stripLeading().length();
            if (indent != 4 && indent != 8 || !line.endsWith(") {")) {
                continue;
            }
            int end = i;
            while (end < lines.length && !lines[end].equals(" ".repeat(indent) + "}")) {
                end++;
            }
            Check.isTrue("line " + (i + 1) + ": a method of " + (end - i + 1) + " lines", end - i + 1 <= 60);
        }
    }
}
