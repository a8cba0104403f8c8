import java.io.IOException;
import java.nio.file.Files;
import java.nio.file.Path;
import java.util.ArrayList;
import java.util.List;
import java.util.Map;
import java.util.TreeMap;
import java.util.regex.Matcher;
import java.util.regex.Pattern;
import java.util.stream.Stream;

/**
 * Each sentence of the document's terms and promises is quoted by a test that holds it, and each quotation stands
 * in the document. The tests quote by the calls of Check that are named terms and promise.
 */
public final class SentencesTest {
    private static final Pattern QUOTED = Pattern.compile("CHECK\\.(terms|promise)\\((?:(\\d+), )?\"([^\"]*)\"\\)");
    private static final Pattern PROMISE = Pattern.compile("## Promise (\\d+):.*");
    /** The terms are kept as the promise 0. */
    private static final int TERMS = 0;
    private static final int LONGEST_HEAD = 20;

    public static void main(String[] args) throws IOException {
        Check check = new Check("SentencesTest");
        Path root = Path.of(args.length > 0 ? args[0] : ".");
        Map<Integer, List<String>> lines = linesOf(root.resolve("../shared/DOC.md"));
        Map<Integer, List<String>> quotations = quotationsOf(root.resolve("src/test/java"));
        check.due("promises in the document", lines.size() - 1, 32);
        quotations.forEach((place, quoted) -> {
            String text = String.join(" ", lines.getOrDefault(place, List.of()));
            quoted.forEach(words -> check.due("promise " + place + " says \"" + words + "\"", text.contains(words), true));
        });
        lines.forEach((place, told) -> {
            List<String> quoted = quotations.getOrDefault(place, List.of());
            for (String line : told) {
                sentencesOf(place, line).forEach(sentence -> check.due("promise " + place + ", tests that quote \"" + sentence
                        + "\"", quoted.stream().anyMatch(q -> q.contains(sentence) || sentence.contains(q)), true));
            }
        });
        check.finish();
    }

    private static Map<Integer, List<String>> linesOf(Path document) throws IOException {
        Map<Integer, List<String>> lines = new TreeMap<>();
        int place = -1;
        for (String line : Files.readAllLines(document)) {
            Matcher promise = PROMISE.matcher(line);
            if (promise.matches()) {
                place = Integer.parseInt(promise.group(1));
            } else if (line.startsWith("## ")) {
                place = line.equals("## Terms") ? TERMS : -1;
            } else if (place >= 0 && !line.isBlank() && !line.startsWith("Ahead of the calls")) {
                lines.computeIfAbsent(place, p -> new ArrayList<>()).add(line.replace("`", "").strip());
            }
        }
        return lines;
    }

    private static Map<Integer, List<String>> quotationsOf(Path tests) throws IOException {
        Map<Integer, List<String>> quotations = new TreeMap<>();
        try (Stream<Path> files = Files.list(tests)) {
            for (Path file : files.filter(f -> f.toString().endsWith("Test.java")).sorted().toList()) {
                Matcher quoted = QUOTED.matcher(Files.readString(file).replaceAll("\"\\s*\\+\\s*\"", ""));
                while (quoted.find()) {
                    int place = quoted.group(2) == null ? TERMS : Integer.parseInt(quoted.group(2));
                    quotations.computeIfAbsent(place, p -> new ArrayList<>()).add(quoted.group(3));
                }
            }
        }
        return quotations;
    }

    /** What has to be quoted of a line: not a paragraph's head, a declaration, or a parameter without bounds. */
    private static List<String> sentencesOf(int place, String line) {
        if (line.startsWith("- ")) {
            return line.matches(".*[0-9'].*") ? List.of(line.substring(2)) : List.of();
        }
        String text = line;
        if (place != TERMS && !line.startsWith("Returns") && !line.startsWith("Throws")) {
            text = line.substring(line.indexOf(": ") + 2);
        }
        List<String> sentences = new ArrayList<>();
        for (String sentence : text.split("(?<=[.;]) ")) {
            boolean isHead = place == TERMS && sentences.isEmpty() && sentence.length() <= LONGEST_HEAD;
            sentences.add(isHead ? "" : sentence);
        }
        sentences.removeIf(String::isEmpty);
        return sentences;
    }
}
