import java.io.IOException;
import java.nio.file.Files;
import java.nio.file.Path;
import java.util.ArrayList;
import java.util.List;
import java.util.Map;
import java.util.TreeMap;
import java.util.regex.Matcher;
import java.util.regex.Pattern;
import java.util.stream.Stream;

/** Each sentence of the document's terms and promises is quoted by a test, and what a test quotes stands there. */
public final class SentencesTest {
    private static final Path DOC = Path.of("../shared/DOC.md");
    private static final Path TESTS = Path.of("src/test/java");
    private static final Pattern QUOTE = Pattern.compile("Due\\.says\\((\\d+), \"([^\"]+)\"\\);");
    private static final Pattern HEAD = Pattern.compile("^## Promise (\\d+):.*");
    private static final int PROMISES = 42;

    public static void main(String[] args) throws IOException {
        Map<Integer, List<String>> sentences = sentences(Files.readAllLines(DOC));
        Map<Integer, List<String>> quotes = quotes();
        Due.due("parts", sentences.size(), PROMISES + 1);
        int all = 0;
        for (Map.Entry<Integer, List<String>> part : sentences.entrySet()) {
            List<String> said = quotes.getOrDefault(part.getKey(), List.of());
            for (String sentence : part.getValue()) {
                all++;
                boolean tested = said.stream().anyMatch(sentence::contains);
                Due.isTrue("part " + part.getKey() + ", a test quotes '" + sentence + "'", tested);
            }
            for (String quote : said) {
                boolean stands = part.getValue().stream().anyMatch(s -> s.contains(quote));
                Due.isTrue("part " + part.getKey() + " says '" + quote + "'", stands);
            }
        }
        System.out.println(all + " sentences");
        Due.end();
    }

    /** By the number of the promise; 0: the terms, and how often an object is used. */
    private static Map<Integer, List<String>> sentences(List<String> lines) {
        Map<Integer, List<String>> all = new TreeMap<>();
        int part = -1;
        for (String line : lines) {
            Matcher head = HEAD.matcher(line);
            if (head.matches()) {
                part = Integer.parseInt(head.group(1));
            } else if (line.startsWith("## ")) {
                part = line.equals("## Terms") ? 0 : -1;
            } else if (line.contains("512 calls") && part < 0) {
                split(line, all.computeIfAbsent(0, p -> new ArrayList<>()), 1);
            } else if (part >= 0 && !line.isBlank() && !line.startsWith("```") && !line.startsWith("Ahead of the calls")) {
                split(line, all.computeIfAbsent(part, p -> new ArrayList<>()), Due.MOST);
            }
            if (part < 0 && line.startsWith("## Not promised")) {
                break;
            }
        }
        return all;
    }

    private static void split(String line, List<String> into, int most) {
        String[] parts = line.trim().split("(?<=[^.\\s])\\.(?=\\s|$)");
        for (int i = 0; i < parts.length && i < most; i++) {
            if (!parts[i].isBlank()) {
                into.add(parts[i].trim());
            }
        }
    }

    private static Map<Integer, List<String>> quotes() throws IOException {
        Map<Integer, List<String>> all = new TreeMap<>();
        try (Stream<Path> files = Files.list(TESTS)) {
            for (Path file : (Iterable<Path>) files.sorted()::iterator) {
                Matcher m = QUOTE.matcher(Files.readString(file));
                while (m.find()) {
                    all.computeIfAbsent(Integer.parseInt(m.group(1)), p -> new ArrayList<>()).add(m.group(2));
                }
            }
        }
        return all;
    }
}
