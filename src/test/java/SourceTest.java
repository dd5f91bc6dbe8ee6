import java.io.IOException;
import java.nio.file.Files;
import java.nio.file.Path;
import java.util.List;
import java.util.regex.Pattern;

/** What of LANGUAGE.md can be seen in the text of the program. The file is the first argument. */
public final class SourceTest {
    private static final String[] NOT_THERE = {
        "\\bimport\\b", "\\bpackage\\b", "\\bcatch\\b", "\\btry\\b", "\\bfinally\\b", "\\bthrows?\\b", "\\bassert\\b",
        "\\bsynchronized\\b", "\\bprotected\\b", "->", "::", "@", "\\bdouble\\b", "\\bSystem\\b", "\\bThread\\b",
        "\\bObject\\b", "\\bstatic\\s*\\{", "\\bhashCode\\b", "\\btoString\\b", "[^\\x00-\\x7f]"};

    public static void main(String[] args) throws IOException {
        Check c = new Check();
        String path = args.length > 0 ? args[0] : "src/main/java/HandLoom.java";
        String text = withoutComments(Files.readString(Path.of(path)));
        for (String rule : NOT_THERE) {
            c.due(rule + " is there", Pattern.compile(rule).matcher(text).find(), false);
        }
        c.due("some twelve classes", Pattern.compile("\\bclass [A-Z]").matcher(text).results().count() <= 12, true);
        shortMethods(c, List.of(text.split("\n")));
        c.close();
    }

    private static String withoutComments(String text) {
        return text.replaceAll("(?s)/\\*.*?\\*/", "").replaceAll("//[^\n]*", "");
    }

    /** A method's first line ends with ") {" and is indented by 4 or 8; its last one is a brace as far in. */
    private static void shortMethods(Check c, List<String> lines) {
        for (int at = 0; at < lines.size(); at++) {
            String line = lines.get(at);
            if (!line.matches("( {4}| {8})(public|private|static|final|int|void|boolean|float|[A-Z]).*\\) \\{")) {
                continue;
            }
            String closing = line.replaceAll("\\S.*", "}");
            int end = at;
            while (end < lines.size() && !lines.get(end).equals(closing)) {
                end++;
            }
            c.due(line.trim() + " is short", end - at < 60, true);
            c.due(line.trim() + " has at most seven parameters", line.split(",").length <= 7, true);
        }
    }
}
