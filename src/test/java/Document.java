import java.io.IOException;
import java.nio.charset.StandardCharsets;
import java.nio.file.Files;
import java.nio.file.Path;
import java.util.Arrays;
import java.util.List;
import java.util.Map;
import java.util.TreeMap;
import java.util.regex.Matcher;
import java.util.regex.Pattern;

/** The document by its promises; the terms, and for how many calls an object is used, stand under the number 0. */
final class Document {
    static final int TERMS = 0;

    private static final Path PLACE = Path.of("../shared/DOC.md");
    private static final String FREE = "what later calls answer is free";
    private static final Pattern HEADING = Pattern.compile("(?m)^## (?:Promise (\\d+)|(.*)).*$");
    private static final Pattern NAMES_BOUNDARY = Pattern.compile("Throws|\\d|\\b(?:empty|at first|several|also if"
        + "|possibly|any number|none|only|latest|earliest|lowest|greatest|whatever|in place|kept|still|besides)\\b");

    private final Map<Integer, String> parts = new TreeMap<>();

    private Document(String text) {
        Matcher matcher = HEADING.matcher(text);
        String name = "";
        int start = 0;
        while (matcher.find()) {
            keep(name, text.substring(start, matcher.start()).strip());
            start = matcher.end();
            name = matcher.group(1) != null ? matcher.group(1) : matcher.group(2);
        }
    }

    static Document read() throws IOException {
        return new Document(text());
    }

    static String text() throws IOException {
        return Files.readString(PLACE, StandardCharsets.UTF_8);
    }

    private void keep(String name, String text) {
        if (name.equals("What it is")) {
            parts.merge(TERMS, text.substring(text.lastIndexOf("\n\n") + 1) + "\n\n", String::concat);
        } else if (name.equals("Terms")) {
            parts.merge(TERMS, text, String::concat);
        } else if (name.matches("\\d+")) {
            parts.put(Integer.parseInt(name), text);
        }
    }

    /** How many promises there are. */
    int promises() {
        return parts.size() - 1;
    }

    boolean says(int part, String words) {
        return plain(parts.getOrDefault(part, "")).contains(plain(words));
    }

    /** The clauses of a promise that name a boundary case; all clauses of the terms. */
    List<String> edges(int part) {
        return Arrays.stream(parts.getOrDefault(part, "").split("\n\n|\n(?=- )")).map(Document::plain)
            .flatMap(paragraph -> Arrays.stream(paragraph.split("(?<=[.;:]) ")))
            .map(clause -> clause.replaceAll("[.;:]$", ""))
            .filter(clause -> part == TERMS ? clause.split(" ").length > 2 : NAMES_BOUNDARY.matcher(clause).find())
            .filter(clause -> !clause.startsWith("`") && !clause.equals(FREE)).toList();
    }

    static String plain(String words) {
        return words.strip().replaceAll("\\s+", " ");
    }
}
