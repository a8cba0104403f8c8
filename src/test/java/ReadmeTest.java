import java.io.IOException;
import java.nio.file.Files;
import java.nio.file.Path;
import java.util.List;
import java.util.Map;
import java.util.TreeMap;
import java.util.regex.Matcher;
import java.util.regex.Pattern;
import java.util.stream.Stream;

/** The calls that README.md shows answer what it tells behind each of them, and its table names each test. */
public final class ReadmeTest {
    private static final Pattern CALL =
            Pattern.compile("(?:int (\\w+) = )?games\\.(\\w+)\\((.*)\\); +// (\\S+): .*");

    public static void main(String[] args) throws IOException {
        Check check = new Check("ReadmeTest");
        Path root = Path.of(args.length > 0 ? args[0] : ".");
        List<String> lines = Files.readAllLines(root.resolve("README.md"));
        List<String> shown = lines.subList(lines.indexOf("```java") + 1, lines.size());
        shown = shown.subList(0, shown.indexOf("```"));
        check.due("the first line shown", shown.get(0), "HeatStadium games = new HeatStadium();");
        Run run = new Run(check);
        Map<String, String> known = new TreeMap<>();
        for (String line : shown.subList(1, shown.size())) {
            Matcher call = CALL.matcher(line);
            check.due("the form of " + line, call.matches(), true);
            run.gives(call.group(2) + arguments(call.group(3), known), call.group(4));
            if (call.group(1) != null) {
                known.put(call.group(1), call.group(4));
            }
        }
        try (Stream<Path> files = Files.list(root.resolve("src/test/java"))) {
            for (String name : files.map(f -> f.getFileName().toString()).filter(n -> n.endsWith("Test.java")).toList()) {
                String test = name.replace(".java", "");
                check.due(test + " in the table", lines.stream().anyMatch(l -> l.startsWith("|")
                        && l.split("\\|")[1].contains(test)), true);
            }
        }
        check.finish();
    }

    /** As Run takes them: a space before each, and the answers in place of the names that they were given. */
    private static String arguments(String told, Map<String, String> known) {
        StringBuilder text = new StringBuilder();
        for (String argument : told.split(", ")) {
            text.append(' ').append(known.getOrDefault(argument, argument.replace("'", "")));
        }
        return text.toString();
    }
}
