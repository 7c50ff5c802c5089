import java.lang.reflect.InvocationTargetException;
import java.lang.reflect.Method;
import java.util.ArrayList;
import java.util.Arrays;
import java.util.List;

/**
 * Every call with every mix of arguments at their edges and beyond them: which exception it throws,
 * the NoSuchElementException ahead of the other one, and that a call that throws changes nothing.
 */
public final class RefusedCallsTest {
    // p PERSON, t THING, f IF, b boolean, 1 .. a what up to that number, s THINGS as bits,
    // d SUNDAYS from 0, k SUNDAYS from 1, m 0 to 8, n bytes of the tape, r any int
    private static final String[] CALLS = {
        "feed rrrrr", "shore n", "fault ", "count e", "worth t", "conditional f4", "person p7",
        "sundays r", "has ptb", "miss pt", "deny fb", "bridge r", "undo ", "crossing k", "then pd1",
        "first p", "waiting pd", "toBear d", "comes s", "why st", "needed st", "fewest st",
        "leads tt", "like p1", "toSend m", "happiest 2", "critical p", "bestMissed p", "common pp",
        "apart pp", "unhad ", "resting ", "sets t", "toDeny st", "sources t", "times pd",
        "fullest k1", "see ptb", "tells p", "look p1", "forget ", "game pp1", "years rd2", "image ",
        "restore "};
    private static final String FULL = "person 5 1 2 50;".repeat(8) + "if 1 4 3;unless 2 0 5;".repeat(6)
            + "worth 3 9;worth 1 - 4;bridge 3;";
    private static final String[] TEXTS = {"", Texts.SMALL, FULL};

    private static final Check CHECK = new Check();

    public static void main(String[] args) {
        CHECK.same("calls of the face", CALLS.length, publicMethods());
        for (String text : TEXTS) {
            for (String call : CALLS) {
                String[] parts = call.split(" ", -1);
                CHECK.promise(parts[0] + " of '" + text + "'");
                sweep(text, methodOf(parts[0]), parts[1]);
            }
        }
        CHECK.end();
    }

    private static int publicMethods() {
        int found = 0;
        for (Method m : RiverIfs.class.getDeclaredMethods()) {
            found += java.lang.reflect.Modifier.isPublic(m.getModifiers()) ? 1 : 0;
        }
        return found;
    }

    private static Method methodOf(String name) {
        for (Method m : RiverIfs.class.getDeclaredMethods()) {
            if (m.getName().equals(name) && java.lang.reflect.Modifier.isPublic(m.getModifiers())) {
                return m;
            }
        }
        throw new IllegalStateException("no " + name);
    }

    private static void sweep(String text, Method method, String kinds) {
        List<Object[]> mixes = new ArrayList<>();
        mixes.add(new Object[0]);
        for (char kind : kinds.toCharArray()) {
            List<Object[]> longer = new ArrayList<>();
            for (Object[] mix : mixes) {
                for (Object value : values(text, kind, kinds.length())) {
                    Object[] more = Arrays.copyOf(mix, mix.length + 1);
                    more[mix.length] = value;
                    longer.add(more);
                }
            }
            mixes = longer;
        }
        for (Object[] mix : mixes) {
            look(text, method, kinds, mix);
        }
    }

    private static List<Object> values(String text, char kind, int arguments) {
        if (kind == 'b') {
            return List.of(true, false);
        }
        if (kind == 'r') {
            return arguments > 4 ? List.of(0, -1) : List.of(Integer.MIN_VALUE, -1, 0, 1,
                    Integer.MAX_VALUE);
        }
        int least = least(kind);
        int most = most(text, kind);
        return List.of(Integer.MIN_VALUE, least - 2, least - 1, least, most, most + 1, most + 2,
                Integer.MAX_VALUE);
    }

    private static int least(char kind) {
        return kind == 'k' ? 1 : 0;
    }

    private static int most(String text, char kind) {
        int many = text.isEmpty() ? 0 : text.equals(FULL) ? 8 : 3;
        return switch (kind) {
            case 'p' -> many - 1;
            case 'f' -> text.equals(FULL) ? 11 : many - 1;
            case 't' -> 9;
            case 's' -> 1023;
            case 'd', 'k' -> 60;
            case 'm' -> 8;
            case 'n' -> 40;
            case 'e' -> 14;
            default -> kind - '0';
        };
    }

    private static void look(String text, Method method, String kinds, Object[] mix) {
        RiverIfs river = ready(text);
        String before = stateOf(river);
        Object got = Check.outcome(() -> invoke(river, method, mix));
        String due = due(text, method.getName(), kinds, mix);
        String told = Arrays.toString(mix);
        if (due.isEmpty()) {
            CHECK.same(told + " throws", String.valueOf(got).startsWith("throws"), false);
        } else {
            CHECK.same(told, got, due);
            CHECK.same(told + " changes nothing", stateOf(river), before);
        }
    }

    private static String due(String text, String name, String kinds, Object[] mix) {
        boolean element = false;
        boolean argument = false;
        for (int i = 0; i < mix.length; i++) {
            char kind = kinds.charAt(i);
            if (kind == 'b' || kind == 'r') {
                continue;
            }
            int value = (Integer) mix[i];
            boolean out = value < least(kind) || value > most(text, kind);
            if ("sdkmn".indexOf(kind) >= 0) {
                argument |= out;
            } else {
                element |= out;
            }
        }
        argument |= name.equals("game") && mix[0].equals(mix[1]);
        return element ? "throws NoSuchElementException"
                : argument ? "throws IllegalArgumentException" : "";
    }

    /** A river with ACTS, an image, something SEEN, a FAULT's place and 40 bytes on the tape. */
    private static RiverIfs ready(String text) {
        RiverIfs river = Texts.river(text);
        Texts.shore(river, "  fault");
        river.bridge(2);
        river.image();
        river.sundays(2);
        river.bridge(0);
        if (!text.isEmpty()) {
            river.has(1, 9, true);
            river.deny(1, true);
            river.see(0, 3, true);
        }
        Texts.feed(river, " ".repeat(31) + "bridge 7;");
        return river;
    }

    private static String stateOf(RiverIfs river) {
        StringBuilder all = new StringBuilder();
        for (int what = 0; what < 15; what++) {
            all.append(river.count(what)).append(' ');
        }
        for (int person = 0; person < river.count(0); person++) {
            for (int what = 0; what < 8; what++) {
                all.append(river.person(person, what)).append(' ');
            }
            all.append(river.tells(person)).append(' ');
        }
        return all.append(river.fault()).append(' ').append(river.worth(3)).toString();
    }

    private static Object invoke(RiverIfs river, Method method, Object[] arguments) {
        try {
            return method.invoke(river, arguments);
        } catch (InvocationTargetException e) {
            if (e.getCause() instanceof RuntimeException thrown) {
                throw thrown;
            }
            throw new IllegalStateException(e.getCause());
        } catch (IllegalAccessException e) {
            throw new IllegalStateException(e);
        }
    }
}
