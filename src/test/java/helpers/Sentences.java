import java.io.IOException;
import java.nio.file.Files;
import java.nio.file.Path;
import java.util.ArrayList;
import java.util.Arrays;
import java.util.LinkedHashMap;
import java.util.List;
import java.util.Map;
import java.util.regex.Matcher;
import java.util.regex.Pattern;

/** The document's sentences, and which words of them some test has quoted. */
final class Sentences {
    // Where one of these stands the document names an edge, or a case of its own.
    private static final Pattern NAMES_AN_EDGE = Pattern.compile("[0-9]+|\\bNONE\\b|\\bnone\\b"
            + "|\\bno such\\b|\\b[a-z]*least\\b|\\bmost\\b|\\bfew(est)?\\b|\\balready\\b|\\bempty\\b"
            + "|\\bnothing\\b|\\bnobody\\b|\\bwithout\\b|\\bWithout\\b|\\brefused\\b|\\bgone\\b"
            + "|\\bbelow\\b|\\babove\\b|\\bwrap\\b|\\bitself\\b|Exception\\b");

    private final Map<String, String> sections = new LinkedHashMap<>();
    private final Map<String, boolean[]> quoted = new LinkedHashMap<>();

    Sentences(Path document) throws IOException {
        String name = "";
        StringBuilder body = new StringBuilder();
        for (String line : Files.readAllLines(document)) {
            Matcher heading = Pattern.compile("## ([^:]*)(:.*)?").matcher(line);
            Matcher part = Pattern.compile("==== ([234])\\. .*").matcher(line);
            if (heading.matches() || part.matches()) {
                put(name, body.toString());
                body.setLength(0);
                name = heading.matches() ? heading.group(1) : "Terms " + part.group(1);
            }
            body.append(heading.matches() ? "" : line.replaceFirst("^==== [234]\\. ", "")).append(' ');
        }
        put(name, body.toString());
    }

    private void put(String name, String body) {
        if (name.startsWith("Terms") || name.startsWith("Promise")) {
            // What stands ahead of a promise's first colon is its call, and says nothing yet.
            String text = name.startsWith("Promise") ? body.replaceFirst("^ *`[^`]*`:", "") : body;
            text = text.replaceAll("\\s+", " ").strip();
            sections.put(name, text);
            quoted.put(name, new boolean[text.length()]);
        }
    }

    /** Whether the words stand in that section; they are quoted from now on. */
    boolean quote(String section, String words) {
        int at = sections.getOrDefault(section, "").indexOf(words);
        if (at < 0) {
            return false;
        }
        Arrays.fill(quoted.get(section), at, at + words.length(), true);
        return true;
    }

    /** Where the document names an edge that no test has quoted. */
    List<String> notQuoted() {
        List<String> all = new ArrayList<>();
        for (Map.Entry<String, String> section : sections.entrySet()) {
            String text = section.getValue();
            Matcher edge = NAMES_AN_EDGE.matcher(text);
            while (edge.find()) {
                if (!quoted.get(section.getKey())[edge.start()]) {
                    int end = Math.min(text.length(), edge.end() + 40);
                    all.add(section.getKey() + ": .. " + text.substring(edge.start(), end));
                }
            }
        }
        return all;
    }
}
