import java.io.IOException;
import java.nio.file.Files;
import java.nio.file.Path;
import java.util.ArrayList;
import java.util.List;
import java.util.Map;
import java.util.TreeMap;
import java.util.regex.Matcher;
import java.util.regex.Pattern;

/** The document, by its sections: "Terms", "Promise 2". */
final class Document {
    /** A promise's sentence of what is answered begins its line, or stands behind the signature. */
    private static final Pattern ANSWER = Pattern.compile("(?m)(?:^|^`.*`: )((?:Creates|Returns|Throws|Computes) .*)$");

    private final Map<String, String> sections = new TreeMap<>();

    Document(Path file) {
        String[] parts = read(file).split("(?m)^## ");
        for (String part : parts) {
            String heading = part.lines().findFirst().orElse("");
            sections.put(heading.replaceFirst(":.*", ""), part.substring(heading.length()));
        }
    }

    private static String read(Path file) {
        try {
            return Files.readString(file);
        } catch (IOException missing) {
            throw new AssertionError("the document is not there: " + file, missing);
        }
    }

    boolean says(String section, String sentence) {
        return sections.getOrDefault(section, "").replaceAll("\\s+", " ").contains(sentence);
    }

    List<String> promises() {
        List<String> names = new ArrayList<>();
        for (String section : sections.keySet()) {
            if (section.startsWith("Promise ")) {
                names.add(section);
            }
        }
        return names;
    }

    /** The lines of a promise that tell what it answers, and what it throws. */
    List<String> answersOf(String promise) {
        List<String> lines = new ArrayList<>();
        Matcher matcher = ANSWER.matcher(sections.getOrDefault(promise, ""));
        while (matcher.find()) {
            lines.add(matcher.group(1).trim());
        }
        return lines;
    }
}
