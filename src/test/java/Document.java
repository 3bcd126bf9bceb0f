import java.util.ArrayList;
import java.util.LinkedHashMap;
import java.util.List;
import java.util.Map;

/** The document's sentences by section; it keeps which of them the tests have named. */
final class Document {
    private final Map<String, List<String>> sections = new LinkedHashMap<>();
    private final Map<String, List<String>> named = new LinkedHashMap<>();

    Document(String text) {
        String section = "";
        StringBuilder body = new StringBuilder();
        for (String line : text.split("\n")) {
            String heading = heading(line);
            if (heading.isEmpty()) {
                body.append(line).append('\n');
            } else {
                sections.put(section, sentences(body.toString()));
                section = heading;
                body.setLength(0);
            }
        }
        sections.put(section, sentences(body.toString()));
    }

    /** "Moulds" of the line for it in the Terms, "Promise 2" of the line for that promise, "" of other lines. */
    private static String heading(String line) {
        if (line.startsWith("<h2>")) {
            return line.substring("<h2>".length(), line.indexOf("</h2>"));
        }
        if (!line.startsWith("## ")) {
            return "";
        }
        int colon = line.indexOf(':');
        return line.substring("## ".length(), colon < 0 ? line.length() : colon);
    }

    private static List<String> sentences(String body) {
        List<String> sentences = new ArrayList<>();
        for (String paragraph : body.split("\n\\s*\n")) {
            String line = paragraph.replace("`", "").replaceAll("\\s+", " ").trim();
            for (String sentence : line.split("(?<=\\.) ")) {
                if (!sentence.isEmpty()) {
                    sentences.add(sentence);
                }
            }
        }
        return sentences;
    }

    /** Whether the section has these words in one of its sentences, which is then a named one. */
    boolean names(String section, String words) {
        named.computeIfAbsent(section, s -> new ArrayList<>()).add(words);
        return sections.getOrDefault(section, List.of()).stream().anyMatch(s -> s.contains(words));
    }

    /** The sentences of a section that begin so, and of which the tests have named no words. */
    List<String> unnamed(String section, String beginning) {
        List<String> words = named.getOrDefault(section, List.of());
        return sections.getOrDefault(section, List.of()).stream()
                .filter(s -> s.startsWith(beginning) && words.stream().noneMatch(s::contains))
                .toList();
    }

    boolean has(String section) {
        return sections.containsKey(section);
    }
}
