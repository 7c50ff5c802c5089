import java.lang.reflect.InvocationTargetException;
import java.lang.reflect.Method;
import java.util.ArrayList;
import java.util.List;
import java.util.Random;

/** Long random runs on the class and on the slow model of the document: all answers are alike. */
public final class ModelTest {
    private static final int RUNS = 60;
    private static final int CALLS = 400;
    private static final int TEXTS = 20000;

    private static final String[] CALL_NAMES = {
        "count i", "worth t", "conditional fw", "person pw", "sundays n", "has ptb", "miss pt",
        "deny fb", "bridge n", "undo ", "crossing d", "then pdw", "first p", "waiting pd",
        "toBear d", "comes s", "why st", "needed st", "fewest st", "leads tt", "like pw",
        "toSend n", "happiest w", "critical p", "bestMissed p", "common pp", "apart pp", "unhad ",
        "resting ", "sets t", "toDeny st", "sources t", "times pd", "fullest dw", "see ptb",
        "tells p", "look pw", "forget ", "game ppw", "years rdw", "image ", "restore ", "fault "};

    // Too often, these would take back what the others did.
    private static final List<String> RARE = List.of("forget", "undo", "restore", "image");
    private static final String[] OFTEN = {"has ptb", "miss pt", "deny fb", "sundays n", "see ptb"};

    private final Random random;
    private final RiverIfs river = new RiverIfs();
    private final Model model = new Model();
    private final List<String> told = new ArrayList<>();
    private final Check check;

    private ModelTest(long seed, Check check) {
        random = new Random(seed);
        this.check = check;
    }

    public static void main(String[] args) {
        Check check = new Check();
        for (int run = 0; run < RUNS; run++) {
            new ModelTest(run, check.promise("run " + run)).run();
        }
        ModelTest texts = new ModelTest(RUNS, check.promise("texts"));
        for (int i = 0; i < TEXTS; i++) {
            texts.tell();
        }
        check.end();
    }

    private void run() {
        for (int i = 0; i < CALLS; i++) {
            if (i == 0 || i == CALLS / 8 || random.nextInt(300) == 0) {
                tell();
            }
            String[] call = CALL_NAMES[random.nextInt(CALL_NAMES.length)].split(" ", -1);
            if (RARE.contains(call[0]) && random.nextInt(6) != 0) {
                call = OFTEN[random.nextInt(OFTEN.length)].split(" ", -1);
            }
            Object[] arguments = new Object[call[1].length()];
            for (int k = 0; k < arguments.length; k++) {
                arguments[k] = argument(call[1].charAt(k));
            }
            both(call[0], arguments);
        }
    }

    private Object argument(char kind) {
        if (random.nextInt(40) == 0 && kind != 'b') {
            return new int[] {-1, 8, 10, 12, 61, 1024, Integer.MIN_VALUE, Integer.MAX_VALUE}
                    [random.nextInt(8)];
        }
        return switch (kind) {
            case 'i' -> random.nextInt(15);
            case 't' -> random.nextInt(10);
            case 'f' -> random.nextInt(8);
            case 'w' -> random.nextInt(4) == 0 ? random.nextInt(9) : random.nextInt(2);
            case 'p' -> random.nextInt(4);
            case 'n' -> random.nextInt(9);
            case 'b' -> random.nextBoolean();
            case 'd' -> random.nextInt(61);
            case 's' -> random.nextInt(1024);
            default -> random.nextInt();
        };
    }

    private void both(String name, Object... arguments) {
        Object got = Check.outcome(() -> invoke(river, name, arguments));
        Object due = Check.outcome(() -> invoke(model, name, arguments));
        check.same(name + List.of(arguments) + " behind " + last(), got, due);
    }

    private String last() {
        return told.isEmpty() ? "nothing" : told.get(told.size() - 1);
    }

    private static Object invoke(Object on, String name, Object[] arguments) {
        for (Method m : on.getClass().getMethods()) {
            if (m.getName().equals(name) && m.getDeclaringClass() == on.getClass()) {
                try {
                    return m.invoke(on, arguments);
                } catch (InvocationTargetException e) {
                    throw (RuntimeException) e.getCause();
                } catch (IllegalAccessException e) {
                    throw new IllegalStateException(e);
                }
            }
        }
        throw new IllegalStateException("no " + name);
    }

    private void tell() {
        String text = random.nextInt(3) == 0 ? broken(shore()) : shore();
        text = text.length() > 700 ? text.substring(0, 700) : text;
        told.add("'" + text + "'");
        byte[] b = Texts.bytesOf(text);
        for (int at = 0; at < b.length; at += 20) {
            both("feed", Texts.numberAt(b, at), Texts.numberAt(b, at + 4),
                    Texts.numberAt(b, at + 8), Texts.numberAt(b, at + 12),
                    Texts.numberAt(b, at + 16));
        }
        if (random.nextInt(20) == 0) {
            both("shore", b.length + 21);
        }
        both("shore", b.length);
        both("fault");
        both("count", 0);
        both("count", 1);
        both("count", 11);
        both("count", 12);
    }

    private String shore() {
        StringBuilder text = new StringBuilder();
        int people = random.nextInt(8) == 0 ? random.nextInt(10) : 2 + random.nextInt(4);
        for (int i = 0; i < people; i++) {
            line(text, "person", bits(), random.nextInt(10), random.nextInt(10),
                    random.nextInt(100));
        }
        int ifs = random.nextInt(random.nextInt(6) == 0 ? 14 : 9);
        for (int i = 0; i < ifs; i++) {
            line(text, random.nextInt(4) == 0 ? "unless" : "if", fewBits(),
                    random.nextInt(2) == 0 ? 0 : fewBits(), random.nextInt(10));
        }
        for (int t = 0; t < 10; t++) {
            if (random.nextInt(3) != 0) {
                text.append("worth ").append(t).append(random.nextInt(3) == 0 ? "-" : " ")
                        .append(random.nextInt(10)).append(';');
            }
        }
        if (random.nextBoolean()) {
            line(text, "bridge", 1 + random.nextInt(8));
        }
        if (random.nextInt(3) != 0) {
            text.append("crosses ").append(expr(0)).append(';');
        }
        return text.toString();
    }

    private int bits() {
        return random.nextInt(1024) & random.nextInt(1024);
    }

    private int fewBits() {
        return bits() & random.nextInt(1024);
    }

    private void line(StringBuilder text, String word, int... numbers) {
        text.append(word);
        for (int n : numbers) {
            text.append(random.nextInt(9) == 0 ? "\n" : " ").append(n);
        }
        text.append(';');
    }

    private String expr(int depth) {
        int kind = random.nextInt(depth > 5 ? 3 : 12);
        String[] values =
                {"longing", "here", "there", "spared", "sunday", "flowers", "last"};
        String[] operators = {"+", "-", "*", "/", " < ", " = ", " and ", " or "};
        if (kind < 2) {
            return values[random.nextInt(values.length)];
        }
        if (kind < 4) {
            return String.valueOf(random.nextInt(random.nextInt(5) == 0 ? 10000 : 20));
        }
        if (kind < 5) {
            return "not " + expr(depth + 1);
        }
        if (kind < 6) {
            return "(" + expr(depth + 1) + ")";
        }
        String operator = operators[random.nextInt(operators.length)];
        if (random.nextBoolean()) {
            return "(" + expr(depth + 1) + ")" + operator + "(" + expr(depth + 1) + ")";
        }
        return expr(depth + 1) + operator + expr(depth + 1);
    }

    private String broken(String text) {
        String[] pieces = {";", "(", ")", "-", "+", "0", "9", "12345", "1024", " not ", "a", "A",
            " or ", "worth", "person", " if ", "crosses", "bridge", "worth 3 1;", "bridge 2;", "crosses 1;",
            "person 1 1 1 1;", "\t", "\u0000", "\u00ff", "((((((",
            "not not not not not not not", " longing ", "<", "=", " "};
        int at = random.nextInt(text.length() + 1);
        if (random.nextInt(4) == 0) {
            at = text.indexOf(';', at) + 1;
        }
        int cut = random.nextInt(3) == 0 ? Math.min(text.length(), at + random.nextInt(4)) : at;
        String piece = random.nextInt(5) == 0 ? "" : pieces[random.nextInt(pieces.length)];
        return text.substring(0, at) + piece + text.substring(cut);
    }
}
