import java.io.IOException;
import java.nio.file.Files;
import java.nio.file.Path;
import java.util.List;
import java.util.regex.Matcher;
import java.util.regex.Pattern;

/** What of LANGUAGE.md can be seen in the program's text. */
public final class LanguageTest {
    private static final Check CHECK = new Check();
    private static final int MOST_LINES = 60;

    public static void main(String[] args) throws IOException {
        List<String> lines = Files.readAllLines(Path.of(System.getProperty("riverifs.source")));
        String all = String.join("\n", lines);
        String code = all.replaceAll("(?s)/\\*.*?\\*/", "").replaceAll("//[^\n]*", "");
        forbidden(code);
        imports(lines);
        throwsOnlyKnown(code);
        methods(lines);
        CHECK.end();
    }

    private static void forbidden(String code) {
        CHECK.promise("LANGUAGE.md, words");
        String[] words = {"->", "::", "\\bcatch\\b", "\\btry\\b", "\\bfinally\\b", "\\bassert\\b",
            "\\bsynchronized\\b", "\\binstanceof\\b", "\\bpackage\\b", "Exact\\b", "\\bfloat\\b",
            "\\bdouble\\b", "\\bvar\\b", "\\bnull\\b", "static \\{", "\\bprotected\\b", "Random",
            "System\\.(?!arraycopy)", "Thread", "\\bObject\\b", "\"\\s*\\+", "\\+\\s*\""};
        for (String word : words) {
            CHECK.same(word, Pattern.compile(word).matcher(code).find(), false);
        }
    }

    private static void imports(List<String> lines) {
        CHECK.promise("LANGUAGE.md, rule 4");
        for (String line : lines) {
            if (line.startsWith("import")) {
                CHECK.same(line, line.equals("import java.util.Arrays;")
                        || line.equals("import java.util.NoSuchElementException;"), true);
            }
        }
    }

    private static void throwsOnlyKnown(String code) {
        CHECK.promise("LANGUAGE.md, rule 6");
        Matcher m = Pattern.compile("\\bthrow\\b[^;]*;").matcher(code);
        while (m.find()) {
            CHECK.same(m.group(), m.group().matches(
                    "throw new (NoSuchElement|IllegalArgument)Exception\\(\"[a-z ]*\"\\);"), true);
        }
    }

    /** Methods begin and end on lines of their own, four or eight blanks deep. */
    private static void methods(List<String> lines) {
        CHECK.promise("LANGUAGE.md, rule 11");
        int start = -1;
        String end = "";
        for (int i = 0; i < lines.size(); i++) {
            String line = lines.get(i);
            Matcher m = Pattern.compile("^((?:    ){1,2})[a-z][A-Za-z\\[\\] ]* ?\\w*\\(.*").matcher(line);
            if (start < 0 && m.matches() && !line.contains("=") && !line.endsWith(";")) {
                start = i;
                end = m.group(1) + "}";
                int parameters = line.replaceAll("[^,]", "").length() + 1;
                CHECK.same("parameters of " + line.strip(), parameters <= 7, true);
            } else if (start >= 0 && line.equals(end)) {
                CHECK.same("lines of " + lines.get(start).strip(), i - start < MOST_LINES, true);
                start = -1;
            }
        }
        CHECK.same("the last method ends", start, -1);
    }
}
