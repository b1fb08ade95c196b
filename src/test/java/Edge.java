import java.io.IOException;
import java.nio.charset.StandardCharsets;
import java.nio.file.Files;
import java.nio.file.Path;
import java.util.ArrayList;
import java.util.LinkedHashMap;
import java.util.List;
import java.util.Map;

/** Names each test of an edge by the words of DOC.md that it holds to; a sentence without a test is told. */
final class Edge {
    private static final Map<String, List<String>> SENTENCES = new LinkedHashMap<>();
    private static final Map<String, List<String>> QUOTED = new LinkedHashMap<>();

    private Edge() {
    }

    static void read(Path document) throws IOException {
        String section = "";
        for (String line : Files.readAllLines(document, StandardCharsets.UTF_8)) {
            if (line.startsWith("## ")) {
                section = line.substring(3).replaceFirst(":.*", "");
                SENTENCES.put(section, new ArrayList<>());
            } else if (section.matches("What it is|Terms|Promise .*")) {
                SENTENCES.get(section).addAll(sentencesOf(line));
            }
        }
    }

    /** Headings, names of parameters, what the interface says ahead of calls and what is free need no test. */
    private static List<String> sentencesOf(String line) {
        List<String> sentences = new ArrayList<>();
        String words = line.replaceFirst("^`.*?`: ", "");
        boolean isName = words.startsWith("- ") && !words.matches(".*\\d.*");
        for (String sentence : words.replace("`", "").split("(?<=[.;]) ")) {
            boolean isHeading = sentence.matches("(The )?\\w*\\.?") || sentence.startsWith("Ahead of the calls");
            boolean isFree = sentence.endsWith("answer is free.");
            if (!isName && !isHeading && !isFree) {
                sentences.add(sentence);
            }
        }
        return sentences;
    }

    static void whatItIs(String words) {
        begin("What it is", words);
    }

    static void terms(String words) {
        begin("Terms", words);
    }

    static void promise(int number, String words) {
        begin("Promise " + number, words);
    }

    private static void begin(String section, String words) {
        Check.begin(section + ", \"" + words + "\"");
        boolean isThere = false;
        for (String sentence : SENTENCES.getOrDefault(section, List.of())) {
            isThere |= sentence.contains(words);
        }
        Check.holds("the document does not say this", isThere);
        QUOTED.computeIfAbsent(section, key -> new ArrayList<>()).add(words);
    }

    static void allQuoted() {
        Check.begin("DOC.md");
        for (Map.Entry<String, List<String>> entry : SENTENCES.entrySet()) {
            List<String> quoted = QUOTED.getOrDefault(entry.getKey(), List.of());
            for (String sentence : entry.getValue()) {
                boolean isQuoted = quoted.stream().anyMatch(sentence::contains);
                Check.holds(entry.getKey() + " has no test of its sentence: " + sentence, isQuoted);
            }
        }
    }
}
