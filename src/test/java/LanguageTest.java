import java.io.IOException;
import java.nio.charset.StandardCharsets;
import java.nio.file.Files;
import java.nio.file.Path;
import java.util.regex.Matcher;
import java.util.regex.Pattern;

/** What of LANGUAGE.md a look at the source can tell; it is run from the project's folder, as .ci/run does. */
public final class LanguageTest {
    private static final String SOURCE = "src/main/java/ClueLeave.java";

    public static void main(String[] args) throws IOException {
        String text = Files.readString(Path.of(SOURCE), StandardCharsets.UTF_8);
        Due.due("signs 1 to 127", text.chars().allMatch(c -> c > 0 && c < 128) ? 1 : 0, 1);
        String code = text.replaceAll("(?s)/\\*.*?\\*/", "").replaceAll("//[^\n]*", "")
            .replaceAll("'(\\\\.|[^'])'", "' '").replaceAll("\"(\\\\.|[^\"])*\"", "\"\"");
        without(code, "\\b(throw|throws|try|catch|finally|synchronized|assert|volatile|native|package|protected)\\b");
        without(code, "->|::");
        without(code, "\\bimport\\s+(?!java\\.util\\.(Arrays|ArrayList|List|Iterator)\\s*;)");
        without(code, "\\b(System\\.(?!arraycopy\\b)|Thread|Runtime|Random|Math\\.random|\\w+Exact)\\b");
        without(code, "\\b(equals|hashCode|toString)\\b");
        without(code, "\\bstatic\\s*\\{");
        without(code, "\\bstatic\\s+(?!final\\b)[\\w\\[\\]]+\\s+\\w+\\s*[=;]");
        without(code, "(?<!static )(?<!static final )\\bclass\\s+(?!ClueLeave\\b)");
        classes(code);
        madeOnce(code);
        methods(code);
        Due.end("LanguageTest");
    }

    private static void without(String code, String pattern) {
        Matcher m = Pattern.compile(pattern).matcher(code);
        int n = 0;
        while (m.find()) {
            n++;
            System.out.println("not in the language: " + m.group());
        }
        Due.due(pattern, n, 0);
    }

    private static void classes(String code) {
        Matcher m = Pattern.compile("\\bclass\\s+\\w+").matcher(code);
        int n = 0;
        while (m.find()) {
            n++;
        }
        Due.due("twelve classes at most", n <= 12 ? 1 : 0, 1);
    }

    /** All calls of a run share one room: what is made is made with the object, in its fields. */
    private static void madeOnce(String code) {
        for (String line : code.split("\n")) {
            if (line.contains("new ")) {
                Due.due(line.trim(), line.matches("\\s*(private )?final .*= .*") ? 1 : 0, 1);
            }
        }
    }

    /** Methods stay short and take at most seven parameters. */
    private static void methods(String code) {
        String[] lines = code.split("\n");
        Pattern head = Pattern.compile("^( {4}| {8})\\S.*\\b(\\w+)\\(([^()]*)\\) \\{$");
        for (int i = 0; i < lines.length; i++) {
            Matcher m = head.matcher(lines[i]);
            if (m.matches()) {
                int end = i;
                while (end < lines.length && !lines[end].equals(m.group(1) + "}")) {
                    end++;
                }
                Due.due(m.group(2) + ": lines", end - i <= 60 ? 1 : 0, 1);
                Due.due(m.group(2) + ": parameters", m.group(3).split(",").length <= 7 ? 1 : 0, 1);
            }
        }
    }
}
