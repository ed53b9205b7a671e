import java.io.IOException;
import java.nio.file.Files;
import java.nio.file.Path;
import java.util.ArrayList;
import java.util.LinkedHashMap;
import java.util.List;
import java.util.Map;
import java.util.TreeMap;
import java.util.regex.Matcher;
import java.util.regex.Pattern;

/** The sentences of ../shared/DOC.md by the headings that they stand under, and which of them have a test. */
final class Document {
    private final Map<String, Map<String, Boolean>> sentences = new LinkedHashMap<>();

    Document(Path file) throws IOException {
        String text = Files.readString(file).replaceAll("(?s)```.*?```", "");
        String heading = "";
        for (String paragraph : text.split("\\n\\s*\\n")) {
            Matcher matcher = Pattern.compile("#+ (?:(Promise \\d+):)?(.*)").matcher(paragraph.strip());
            if (matcher.matches()) {
                heading = matcher.group(1) == null ? matcher.group(2).strip() : matcher.group(1);
                sentences.put(heading, new TreeMap<>());
            } else {
                for (String line : paragraph.strip().split("\\n(?=- )")) {
                    addSentences(heading, line);
                }
            }
        }
    }

    private void addSentences(String heading, String line) {
        String told = line.replaceFirst("^- ", "").replaceFirst("^\\d+\\. ", "").replaceFirst("^`[^`]*\\)[^`]*`: ", "");
        for (String sentence : told.split("(?<=\\.)\\)? +\\(?(?=[A-Z])")) {
            sentences.get(heading).put(sentence.replaceFirst("\\.\\)$", "."), false);
        }
    }

    /** Finds the one sentence under a heading that begins so, and keeps in mind that it has a test. */
    String tested(String heading, String beginning) {
        List<String> found = new ArrayList<>();
        for (String sentence : sentences.getOrDefault(heading, Map.of()).keySet()) {
            if (sentence.startsWith(beginning)) {
                found.add(sentence);
            }
        }
        if (found.size() != 1) {
            throw new IllegalStateException(found.size() + " sentences of " + heading + " begin with: " + beginning);
        }
        sentences.get(heading).put(found.get(0), true);
        return found.get(0);
    }

    List<String> untested() {
        List<String> found = new ArrayList<>();
        for (Map.Entry<String, Map<String, Boolean>> under : sentences.entrySet()) {
            for (Map.Entry<String, Boolean> sentence : under.getValue().entrySet()) {
                if (!sentence.getValue()) {
                    found.add(under.getKey() + ": " + sentence.getKey());
                }
            }
        }
        return found;
    }
}
