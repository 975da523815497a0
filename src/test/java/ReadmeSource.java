import java.io.IOException;
import java.nio.charset.StandardCharsets;
import java.nio.file.Files;
import java.nio.file.Path;
import java.util.ArrayList;
import java.util.List;
import java.util.regex.Matcher;
import java.util.regex.Pattern;

/** Makes of README.md what tries its examples: Demo, its program, and ReadmeExamples, all its other calls in a row. */
public final class ReadmeSource {
    private static final Pattern ANSWERED =
        Pattern.compile("(\\w+\\.\\w+\\(.*\\));\\s+// (-?\\d+|NONE|BAD|STATE|FULL)(: .*)?");

    private final List<String> demo = new ArrayList<>();
    private final List<String> printed = new ArrayList<>();
    private final List<String> calls = new ArrayList<>();
    private int wrong;

    /** The page, and the folder for the sources. */
    public static void main(String[] args) throws IOException {
        ReadmeSource source = new ReadmeSource();
        source.read(Files.readAllLines(Path.of(args[0]), StandardCharsets.UTF_8));
        Path folder = Files.createDirectories(Path.of(args[1]));
        Files.write(folder.resolve("Demo.java"), source.demo);
        Files.write(folder.resolve("ReadmeExamples.java"), source.examples());
        if (source.wrong != 0) {
            System.exit(1);
        }
    }

    private void read(List<String> page) {
        String fence = "";
        boolean inDemo = false;
        for (int i = 0; i < page.size(); i++) {
            String line = page.get(i);
            if (line.startsWith("```")) {
                fence = line.substring(3);
                inDemo = !fence.isEmpty() && page.get(i + 1).contains("class Demo");
            } else if (inDemo) {
                demo.add(line);
            } else if (fence.equals("java")) {
                example(i + 1, line);
            } else if (fence.equals("text")) {
                printed.add(line);
            }
        }
    }

    private void example(int number, String line) {
        Matcher m = ANSWERED.matcher(line);
        if (m.matches()) {
            String due = m.group(2);
            String value = Character.isLetter(due.charAt(0)) ? "ClueLeave." + due : due;
            calls.add("Due.due(\"README.md " + number + ": " + m.group(1) + "\", " + m.group(1) + ", " + value + ");");
        } else if (line.matches("\\w+\\.\\w+\\(.*")) {
            // Only what stands within a loop may be without an answer: it is further in.
            wrong++;
            System.out.println("README.md " + number + " has no answer behind it: " + line);
        } else {
            calls.add(line);
        }
    }

    private List<String> examples() {
        List<String> out = new ArrayList<>();
        out.add("public final class ReadmeExamples {");
        out.add("    public static void main(String[] args) throws Exception {");
        out.add("        java.io.ByteArrayOutputStream told = new java.io.ByteArrayOutputStream();");
        out.add("        java.io.PrintStream out = System.out;");
        out.add("        System.setOut(new java.io.PrintStream(told, true));");
        out.add("        Demo.main(args);");
        out.add("        System.setOut(out);");
        out.add("        String[] lines = told.toString().split(\"\\\\R\");");
        out.add("        Due.due(\"lines of Demo\", lines.length, " + printed.size() + ");");
        for (int i = 0; i < printed.size(); i++) {
            String line = "\"" + printed.get(i) + "\"";
            out.add("        Due.due(" + line + ", " + i + " < lines.length && lines[" + i + "].equals(" + line
                + ") ? 1 : 0, 1);");
        }
        for (String call : calls) {
            out.add("        " + call);
        }
        out.add("        Due.end(\"ReadmeExamples\");");
        out.add("    }");
        out.add("}");
        return out;
    }
}
