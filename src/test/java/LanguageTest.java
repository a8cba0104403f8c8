import java.io.IOException;
import java.nio.file.Files;
import java.nio.file.Path;
import java.util.List;

/** What of LANGUAGE.md can be seen in the text of the class: words left out, lengths, imports. */
public final class LanguageTest {
    private static final String[] LEFT_OUT = {"->", "::", "catch", "finally", "assert", "synchronized", "instanceof",
        "Math.", "Float.", "Double.", "System.", "Object", "static {", "float[]", "double[]", "var ", "equals", "String "};

    public static void main(String[] args) throws IOException {
        Check check = new Check("LanguageTest");
        Path root = Path.of(args.length > 0 ? args[0] : ".");
        List<String> lines = Files.readAllLines(root.resolve("src/main/java/HeatStadium.java"));
        List<String> code = lines.stream().map(String::strip)
                .filter(line -> !line.startsWith("*") && !line.startsWith("/*") && !line.startsWith("//"))
                .map(line -> line.replaceAll("\"[^\"]*\"", "TEXT")).toList();
        for (String word : LEFT_OUT) {
            check.due("lines with " + word, code.stream().filter(line -> line.contains(word)).count(), 0L);
        }
        check.due("imports", code.stream().filter(line -> line.startsWith("import")).toList(),
                List.of("import java.util.NoSuchElementException;"));
        check.due("texts that are joined or used but for exceptions",
                code.stream().filter(line -> line.contains("TEXT") && !line.startsWith("throw new ")).toList(),
                List.of());
        check.due("static fields that are not final",
                code.stream().filter(line -> line.contains(" static ") && line.contains(" = ")
                        && !line.contains(" final ")).toList(), List.of());
        check.due("the longest method is short", longestMethod(lines) <= 60, true);
        check.finish();
    }

    /** Methods of the class are indented by 4, those of the classes inside it by 8. */
    private static int longestMethod(List<String> lines) {
        int longest = 0;
        for (int i = 0; i < lines.size(); i++) {
            for (String indent : new String[] {"    ", "        "}) {
                if (lines.get(i).matches(indent + "(public|private)[^=;]*\\(.*") && !lines.get(i).contains(" class ")) {
                    int end = i;
                    while (end < lines.size() && !lines.get(end).equals(indent + "}")) {
                        end++;
                    }
                    longest = Math.max(longest, end - i + 1);
                }
            }
        }
        return longest;
    }
}
