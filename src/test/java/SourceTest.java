import java.io.IOException;
import java.nio.file.Files;
import java.nio.file.Path;
import java.util.regex.Matcher;
import java.util.regex.Pattern;

/** Rules of LANGUAGE.md that can be seen from the words of the source alone. Run from the project's root. */
public final class SourceTest {
    private static final Due DUE = new Due("SourceTest");

    public static void main(String[] args) throws IOException {
        String source = Files.readString(Path.of("src/main/java/HandsHall.java"));
        String code = source.replaceAll("(?s)/\\*.*?\\*/", "").replaceAll("//[^\n]*", "");
        for (int i = 0; i < source.length(); i++) {
            if (source.charAt(i) > 126) {
                DUE.is("sign at " + i, source.charAt(i), 0);
            }
        }
        for (String word : new String[] {"package", "import", "try", "catch", "finally", "throw", "throws", "assert",
            "synchronized", "double", "float", "protected", "System\\.(?!arraycopy)\\w+", "\\w+Exact", "->", "::",
            "null", "Object", "String"}) {
            Matcher m = Pattern.compile(word.matches("\\w.*") ? "\\b" + word + "\\b" : word).matcher(code);
            DUE.is("'" + word + "' stands there", m.find() ? 1 : 0, 0);
        }
        // Calls make nothing: new stands in constructors alone, where it fills a field.
        Matcher made = Pattern.compile("(?m)^(.*)\\bnew\\b").matcher(code);
        while (made.find()) {
            DUE.is("made: " + made.group(), made.group(1).matches("\\s+\\w+ = ") ? 1 : 0, 1);
        }
        lengths(source);
        DUE.end();
    }

    private static void lengths(String source) {
        int classes = 0;
        int since = 0;
        String[] lines = source.split("\n");
        for (int i = 0; i < lines.length; i++) {
            classes += lines[i].matches("\\s*(public|private) (static )?final class .*") ? 1 : 0;
            if (lines[i].matches("( {4}| {8})\\w[^=;]*\\(.*\\) \\{")) {
                since = i;
            }
            if (lines[i].matches("( {4}| {8})\\}") && i - since >= 60) {
                DUE.is("lines of the method at " + (since + 1), i - since + 1, 60);
            }
            DUE.is("line " + (i + 1) + " is short", lines[i].length() <= 120 ? 1 : 0, 1);
        }
        DUE.is("classes", classes <= 12 ? 1 : 0, 1);
    }
}
