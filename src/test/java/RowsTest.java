import java.util.ArrayDeque;
import java.util.ArrayList;
import java.util.Deque;
import java.util.List;
import java.util.Set;
import java.util.regex.Matcher;
import java.util.regex.Pattern;

/**
 * All short rows of TOKENS behind some beginnings: the FAULT is the one that a row of states finds,
 * which goes along the text without any recursion.
 */
public final class RowsTest {
    private static final Check CHECK = new Check().promise("3 shore, all short rows");
    private static final String[] OF_EXPR = {"1", "99999", "last", "foo", "not", "and", "or", "(",
        ")", "+", "<", ";", "A"};
    private static final String[] OF_LINES = {"worth", "person", "if", "crosses", "0", "9", "10",
        "8", "1023", "1024", "99", "100", "-", ";", "12345", "foo", "+"};
    private static final Set<String> VALUES =
            Set.of("longing", "here", "there", "spared", "sunday", "flowers", "last");

    private record Token(String text, int place) {
        boolean isNumber() {
            return text.matches("[0-9]+");
        }

        boolean isWord() {
            return text.matches("[a-z]+");
        }
    }

    private final List<Token> tokens = new ArrayList<>();
    private int at = 0;
    private int people = 0;
    private int ifs = 0;
    private boolean bridge = false;
    private boolean crosses = false;
    private final List<Integer> told = new ArrayList<>();

    private RowsTest(String text) {
        Matcher m = Pattern.compile("[a-z]+|[0-9]+|[^ \n]").matcher(text);
        while (m.find()) {
            tokens.add(new Token(m.group(), m.start()));
        }
        tokens.add(new Token("", text.length()));
    }

    public static void main(String[] args) {
        rows("crosses ", OF_EXPR, 4);
        for (String ahead : List.of("1+", "not ", "last<", "1<2 and ", "(1)", "not not not not not ")) {
            rows("crosses " + ahead, OF_EXPR, 3);
        }
        for (int deep = 4; deep <= 7; deep++) {
            rows("crosses " + "(".repeat(deep), OF_EXPR, 3);
        }
        for (String ahead : List.of("worth ", "worth 3 ", "worth 3 -", "worth 9 1;worth ", "person ",
                "person 1 ", "person 1 2 ", "person 1 2 3 ", "if ", "unless 1 ", "if 1 2 ", "bridge ",
                "bridge 1;", "bridge 1;bridge", "crosses 1;", "person 1 1 1 1;".repeat(8),
                "person 1 1 1 1;".repeat(7), "if 1 0 1;".repeat(11), "unless 1 0 1;".repeat(12))) {
            rows(ahead, OF_LINES, 3);
        }
        CHECK.end();
    }

    private static void rows(String ahead, String[] tokens, int most) {
        CHECK.same("'" + ahead + "'", Texts.faultOf(ahead), new RowsTest(ahead).due());
        for (int i = 0; i < tokens.length && most > 0; i++) {
            rows(ahead + " " + tokens[i], tokens, most - 1);
        }
    }

    /** "fault@place" of the text, "0@-1" without one. */
    private String due() {
        int fault = 0;
        while (fault == 0 && at < tokens.size() - 1) {
            fault = line();
        }
        return fault == 0 ? "0@-1" : fault + "@" + now().place;
    }

    private Token now() {
        return tokens.get(at);
    }

    private int line() {
        String word = now().text;
        int many = switch (word) {
            case "worth" -> 2;
            case "person" -> people++ < 8 ? 4 : -2;
            case "if", "unless" -> ifs++ < 12 ? 3 : -2;
            case "bridge" -> bridge ? -5 : 1;
            case "crosses" -> crosses ? -5 : 0;
            default -> -1;
        };
        if (many < 0) {
            return -many;
        }
        bridge |= word.equals("bridge");
        crosses |= word.equals("crosses");
        at++;
        int fault = word.equals("crosses") ? expr() : numbers(word, many);
        if (fault == 0 && !now().text.equals(";")) {
            return 1;
        }
        at += fault == 0 ? 1 : 0;
        return fault;
    }

    private int numbers(String word, int many) {
        for (int i = 0; i < many; i++) {
            if (word.equals("worth") && i == 1 && now().text.equals("-")) {
                at++;
            }
            if (!now().isNumber()) {
                return 1;
            }
            int number = Integer.parseInt(now().text);
            boolean ofBits = i == 0 && !word.equals("worth") && !word.equals("bridge")
                    || i == 1 && !word.equals("worth") && !word.equals("person");
            int most = ofBits ? 1023 : word.equals("bridge") ? 8 : i == 3 ? 99 : 9;
            if (now().text.length() > 4 || number > most || word.equals("bridge") && number == 0) {
                return 2;
            }
            if (word.equals("worth") && i == 0) {
                if (told.contains(number)) {
                    return 4;
                }
                told.add(number);
            }
            at++;
        }
        return 0;
    }

    /** Goes up to the TOKEN behind the EXPR, with one flag for each that is open: a test is behind. */
    private int expr() {
        Deque<Boolean> open = new ArrayDeque<>(List.of(false));
        boolean partMust = true;
        boolean notMay = true;
        int nots = 0;
        while (true) {
            Token t = now();
            boolean opens = at > 0 && tokens.get(at - 1).text.equals("(");
            if (partMust) {
                boolean isNot = t.text.equals("not") && notMay;
                if (!t.isNumber() && !t.isWord() && !t.text.equals("(")) {
                    return 1;
                }
                if (opens && open.size() > 6 || t.isNumber() && t.text.length() > 4
                        || isNot && nots == 6) {
                    return 2;
                }
                if (t.isWord() && !isNot && !VALUES.contains(t.text)) {
                    return 3;
                }
                nots = isNot ? nots + 1 : 0;
                partMust = isNot || t.text.equals("(");
                notMay = partMust;
                if (t.text.equals("(")) {
                    open.push(false);
                }
            } else if (t.text.equals(")") && open.size() > 1) {
                open.pop();
            } else if (t.text.equals("and") || t.text.equals("or")) {
                open.pop();
                open.push(false);
                partMust = true;
                notMay = true;
            } else if (Set.of("<", "=").contains(t.text) && !open.peek()) {
                open.pop();
                open.push(true);
                partMust = true;
                notMay = false;
            } else if (Set.of("+", "-", "*", "/").contains(t.text)) {
                partMust = true;
                notMay = false;
            } else {
                return open.size() > 1 ? 1 : 0;
            }
            at++;
        }
    }
}
