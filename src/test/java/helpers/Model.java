import java.util.ArrayDeque;
import java.util.ArrayList;
import java.util.Arrays;
import java.util.HashMap;
import java.util.List;
import java.util.Map;
import java.util.NoSuchElementException;
import java.util.TreeSet;
import java.util.function.IntPredicate;

/**
 * The document once more, in the slowest and most literal way and with all of the library, so that
 * the class can be held against it in long random runs.
 */
public final class Model {
    private static final class Fault extends RuntimeException {
        private static final long serialVersionUID = 1L;
        final int number;
        final int place;

        Fault(int number, int place) {
            this.number = number;
            this.place = place;
        }
    }

    private record Token(char kind, String text, int place) {
    }

    private record If(TreeSet<Integer> needs, TreeSet<Integer> bars, int gives, boolean unless) {
    }

    private record Sight(int person, int thing, boolean has) {
    }

    private interface Expr {
        int of(Map<String, Integer> values);
    }

    private static final class Person implements Cloneable {
        TreeSet<Integer> has;
        int missed;
        int spared;
        int longing;
        int flowers;

        Person copy() {
            Person p = new Person();
            p.has = new TreeSet<>(has);
            p.missed = missed;
            p.spared = spared;
            p.longing = longing;
            p.flowers = flowers;
            return p;
        }
    }

    /** All that SUNDAYS and ACTS change. */
    private static final class World {
        List<Person> people = new ArrayList<>();
        TreeSet<Integer> denied = new TreeSet<>();
        TreeSet<Integer> crossed = new TreeSet<>();
        TreeSet<Integer> waited = new TreeSet<>();
        int bears = 4;
        int sunday = 0;

        World copy() {
            World w = new World();
            for (Person p : people) {
                w.people.add(p.copy());
            }
            w.denied = new TreeSet<>(denied);
            w.crossed = new TreeSet<>(crossed);
            w.waited = new TreeSet<>(waited);
            w.bears = bears;
            w.sunday = sunday;
            return w;
        }
    }

    private static final class Kept {
        World world;
        List<World> acts;
        List<Sight> seen;
        int[] status;
    }

    private final List<Byte> tape = new ArrayList<>();
    private Map<Integer, Integer> worths = new HashMap<>();
    private List<If> ifs = new ArrayList<>();
    private Expr rule = null;
    private World now = new World();
    private ArrayDeque<World> acts = new ArrayDeque<>();
    private List<Sight> seen = new ArrayList<>();
    private int[] status = new int[3];
    private Kept kept = null;
    private int faultPlace = -1;

    // ---- reading ----

    private List<Token> tokens;
    private int at;
    private Map<Integer, Integer> newWorths;
    private List<If> newIfs;
    private World newWorld;
    private Expr newRule;
    private boolean bridgeTold;

    public int feed(int a, int b, int c, int d, int e) {
        if (tape.size() + 20 > 700) {
            return -1;
        }
        for (int number : new int[] {a, b, c, d, e}) {
            for (int k = 3; k >= 0; k--) {
                tape.add((byte) (number >> 8 * k));
            }
        }
        return tape.size();
    }

    public int shore(int n) {
        if (n < 0 || n > tape.size()) {
            throw new IllegalArgumentException();
        }
        StringBuilder text = new StringBuilder();
        for (int i = 0; i < n; i++) {
            text.append((char) (tape.get(i) & 255));
        }
        tape.clear();
        faultPlace = -1;
        try {
            readShore(text.toString());
        } catch (Fault f) {
            status[0]++;
            faultPlace = f.place;
            return f.number;
        }
        worths = newWorths;
        ifs = newIfs;
        now = newWorld;
        rule = newRule;
        acts = new ArrayDeque<>();
        seen = new ArrayList<>();
        kept = null;
        return 0;
    }

    private static List<Token> split(String text) {
        List<Token> all = new ArrayList<>();
        java.util.regex.Matcher m = java.util.regex.Pattern
                .compile("[a-z]+|[0-9]+|[ \n]+|.", java.util.regex.Pattern.DOTALL).matcher(text);
        while (m.find()) {
            String t = m.group();
            char c = t.charAt(0);
            if (c >= 'a' && c <= 'z') {
                all.add(new Token('w', t, m.start()));
            } else if (c >= '0' && c <= '9') {
                all.add(new Token('n', t, m.start()));
            } else if (c != ' ' && c != '\n') {
                all.add(new Token(";()+-*/<=".indexOf(c) >= 0 ? 's' : '?', t, m.start()));
            }
        }
        all.add(new Token('e', "", text.length()));
        return all;
    }

    private Token token() {
        return tokens.get(at);
    }

    private boolean is(String text) {
        return (token().kind == 'w' || token().kind == 's') && token().text.equals(text);
    }

    private Fault fault(int number) {
        return new Fault(number, token().place);
    }

    private void must(String text) {
        if (!is(text)) {
            throw fault(1);
        }
        at++;
    }

    private int number(int least, int most) {
        if (token().kind != 'n') {
            throw fault(1);
        }
        if (token().text.length() >= 5) {
            throw fault(2);
        }
        int n = Integer.parseInt(token().text);
        if (n < least || n > most) {
            throw fault(2);
        }
        at++;
        return n;
    }

    private void readShore(String text) {
        tokens = split(text);
        at = 0;
        newWorths = new HashMap<>();
        newIfs = new ArrayList<>();
        newWorld = new World();
        newRule = null;
        bridgeTold = false;
        while (token().kind != 'e') {
            readLine();
            must(";");
        }
    }

    private void readLine() {
        String word = token().kind == 'w' ? token().text : "";
        switch (word) {
            case "worth" -> {
                at++;
                int thing = number(0, 9);
                if (newWorths.containsKey(thing)) {
                    at--;
                    throw fault(4);
                }
                int sign = 1;
                if (is("-")) {
                    at++;
                    sign = -1;
                }
                newWorths.put(thing, sign * number(0, 9));
            }
            case "person" -> {
                if (newWorld.people.size() == 8) {
                    throw fault(2);
                }
                at++;
                Person p = new Person();
                p.has = setOf(number(0, 1023));
                p.missed = number(0, 9);
                p.spared = number(0, 9);
                p.longing = number(0, 99);
                newWorld.people.add(p);
            }
            case "if", "unless" -> {
                if (newIfs.size() == 12) {
                    throw fault(2);
                }
                at++;
                newIfs.add(new If(setOf(number(0, 1023)), setOf(number(0, 1023)), number(0, 9),
                        word.equals("unless")));
            }
            case "bridge" -> {
                if (bridgeTold) {
                    throw fault(5);
                }
                at++;
                bridgeTold = true;
                newWorld.bears = number(1, 8);
            }
            case "crosses" -> {
                if (newRule != null) {
                    throw fault(5);
                }
                at++;
                newRule = expr(0);
            }
            default -> throw fault(1);
        }
    }

    private Expr expr(int within) {
        if (within >= 6 && (token().kind == 'n' || token().kind == 'w' || is("("))) {
            throw fault(2);
        }
        Expr left = and(within);
        while (is("or")) {
            at++;
            Expr a = left;
            Expr b = and(within);
            left = v -> a.of(v) != 0 | b.of(v) != 0 ? 1 : 0;
        }
        return left;
    }

    private Expr and(int within) {
        Expr left = not(within, 1);
        while (is("and")) {
            at++;
            Expr a = left;
            Expr b = not(within, 1);
            left = v -> a.of(v) != 0 & b.of(v) != 0 ? 1 : 0;
        }
        return left;
    }

    private Expr not(int within, int which) {
        if (is("not")) {
            if (which == 7) {
                throw fault(2);
            }
            at++;
            Expr of = not(within, which + 1);
            return v -> of.of(v) == 0 ? 1 : 0;
        }
        Expr a = sum(within);
        if (is("<")) {
            at++;
            Expr b = sum(within);
            return v -> a.of(v) < b.of(v) ? 1 : 0;
        }
        if (is("=")) {
            at++;
            Expr b = sum(within);
            return v -> a.of(v) == b.of(v) ? 1 : 0;
        }
        return a;
    }

    private Expr sum(int within) {
        Expr left = product(within);
        while (is("+") || is("-")) {
            boolean plus = is("+");
            at++;
            Expr a = left;
            Expr b = product(within);
            left = plus ? v -> a.of(v) + b.of(v) : v -> a.of(v) - b.of(v);
        }
        return left;
    }

    private Expr product(int within) {
        Expr left = part(within);
        while (is("*") || is("/")) {
            boolean times = is("*");
            at++;
            Expr a = left;
            Expr b = part(within);
            left = times ? v -> a.of(v) * b.of(v) : v -> b.of(v) == 0 ? 0 : a.of(v) / b.of(v);
        }
        return left;
    }

    private Expr part(int within) {
        if (token().kind == 'n') {
            int n = number(0, 9999);
            return v -> n;
        }
        if (token().kind == 'w') {
            String name = token().text;
            if (!List.of("longing", "here", "there", "spared", "sunday", "flowers", "last")
                    .contains(name)) {
                throw fault(3);
            }
            at++;
            return v -> v.get(name);
        }
        must("(");
        Expr inner = expr(within + 1);
        must(")");
        return inner;
    }

    // ---- sets as bits, and back ----

    private static TreeSet<Integer> setOf(int bits) {
        TreeSet<Integer> set = new TreeSet<>();
        for (int i = 0; i < 12; i++) {
            if ((bits & 1 << i) != 0) {
                set.add(i);
            }
        }
        return set;
    }

    private static int bitsOf(Iterable<Integer> set) {
        int bits = 0;
        for (int i : set) {
            bits |= 1 << i;
        }
        return bits;
    }

    private static int bitsWhere(int many, IntPredicate holds) {
        int bits = 0;
        for (int i = 0; i < many; i++) {
            if (holds.test(i)) {
                bits |= 1 << i;
            }
        }
        return bits;
    }

    private static TreeSet<Integer> with(TreeSet<Integer> set, int one) {
        TreeSet<Integer> more = new TreeSet<>(set);
        more.add(one);
        return more;
    }

    private static TreeSet<Integer> without(TreeSet<Integer> set, int one) {
        TreeSet<Integer> less = new TreeSet<>(set);
        less.remove(one);
        return less;
    }

    // ---- what comes ----

    private boolean canBring(int i, TreeSet<Integer> things, TreeSet<Integer> denied) {
        If one = ifs.get(i);
        if (denied.contains(i) || things.contains(one.gives)) {
            return false;
        }
        for (int b : one.bars) {
            if (things.contains(b)) {
                return false;
            }
        }
        return one.unless ? !things.containsAll(one.needs) : things.containsAll(one.needs);
    }

    private TreeSet<Integer> what(TreeSet<Integer> things, TreeSet<Integer> denied) {
        TreeSet<Integer> all = new TreeSet<>(things);
        boolean again = true;
        while (again) {
            again = false;
            for (int i = 0; i < ifs.size() && !again; i++) {
                if (canBring(i, all, denied)) {
                    all.add(ifs.get(i).gives);
                    again = true;
                }
            }
        }
        return all;
    }

    private TreeSet<Integer> there(World w, int person) {
        Person p = w.people.get(person);
        return what(with(p.has, p.missed), w.denied);
    }

    private TreeSet<Integer> sparedBank(World w, int person) {
        Person p = w.people.get(person);
        return what(without(p.has, p.spared), w.denied);
    }

    private int worthOfAll(Iterable<Integer> things) {
        int sum = 0;
        for (int t : things) {
            sum += worths.getOrDefault(t, 0);
        }
        return sum;
    }

    // ---- a SUNDAY ----

    private boolean wants(World w, int person) {
        Person p = w.people.get(person);
        if (rule == null) {
            return p.longing >= 10;
        }
        Map<String, Integer> v = new HashMap<>();
        v.put("longing", p.longing);
        v.put("here", worthOfAll(p.has));
        v.put("there", worthOfAll(there(w, person)));
        v.put("spared", worthOfAll(sparedBank(w, person)));
        v.put("sunday", w.sunday);
        v.put("flowers", p.flowers);
        v.put("last", w.crossed.contains(person) ? 1 : 0);
        return rule.of(v) > 0;
    }

    private void sunday(World w) {
        List<Integer> wanting = new ArrayList<>();
        for (int i = 0; i < w.people.size(); i++) {
            if (wants(w, i)) {
                wanting.add(i);
            }
        }
        wanting.sort((a, b) -> w.people.get(b).longing - w.people.get(a).longing);
        int borne = Math.min(w.bears, wanting.size());
        w.waited = new TreeSet<>(wanting.subList(borne, wanting.size()));
        w.crossed = new TreeSet<>(wanting.subList(0, borne));
        for (int i = 0; i < w.people.size(); i++) {
            Person p = w.people.get(i);
            TreeSet<Integer> there = there(w, i);
            TreeSet<Integer> lacking = new TreeSet<>(there);
            lacking.removeAll(p.has);
            if (w.crossed.contains(i)) {
                int gain = worthOfAll(there) - worthOfAll(p.has);
                if (gain > 0) {
                    p.longing = Math.max(0, p.longing - gain);
                }
                if (!lacking.isEmpty()) {
                    p.flowers = Math.min(99, p.flowers + 1);
                }
            } else {
                p.longing = Math.min(99, p.longing + lacking.size() + 1);
            }
        }
        w.sunday++;
    }

    private List<World> ahead(World from, int many) {
        List<World> days = new ArrayList<>();
        World w = from.copy();
        for (int i = 0; i < many; i++) {
            sunday(w);
            days.add(w.copy());
        }
        return days;
    }

    // ---- what may be asked ----

    private static void element(boolean is) {
        if (!is) {
            throw new NoSuchElementException();
        }
    }

    private static void argument(boolean is) {
        if (!is) {
            throw new IllegalArgumentException();
        }
    }

    private void thing(int t) {
        element(t >= 0 && t <= 9);
    }

    private void who(int p) {
        element(p >= 0 && p < now.people.size());
    }

    private static void range(int n, int least, int most) {
        argument(n >= least && n <= most);
    }

    // ---- promises ----

    public int fault() {
        return faultPlace;
    }

    public int count(int what) {
        element(what >= 0 && what <= 14);
        return switch (what) {
            case 0 -> now.people.size();
            case 1 -> ifs.size();
            case 2 -> now.bears;
            case 3 -> now.sunday;
            case 4 -> bitsOf(now.crossed);
            case 5 -> bitsOf(now.denied);
            case 6 -> idle();
            case 7 -> ends();
            case 8 -> ring();
            case 9 -> acts.size();
            case 10 -> seen.size();
            case 11 -> tape.size();
            default -> status[what - 12];
        };
    }

    private int idle() {
        return bitsWhere(ifs.size(), i -> {
            if (now.denied.contains(i)) {
                return false;
            }
            for (int s = 0; s < 1024; s++) {
                if (!what(setOf(s), with(now.denied, i)).equals(what(setOf(s), now.denied))) {
                    return false;
                }
            }
            return true;
        });
    }

    private int ends() {
        return bitsWhere(10, t -> {
            boolean given = false;
            boolean needed = false;
            for (int i = 0; i < ifs.size(); i++) {
                if (!now.denied.contains(i)) {
                    given |= ifs.get(i).gives == t;
                    needed |= ifs.get(i).needs.contains(t);
                }
            }
            return needed && !given;
        });
    }

    private int[][] distances() {
        int far = 1000;
        int[][] d = new int[10][10];
        for (int[] row : d) {
            Arrays.fill(row, far);
        }
        for (int i = 0; i < ifs.size(); i++) {
            if (!now.denied.contains(i)) {
                for (int n : ifs.get(i).needs) {
                    d[n][ifs.get(i).gives] = 1;
                }
            }
        }
        for (int k = 0; k < 10; k++) {
            for (int i = 0; i < 10; i++) {
                for (int j = 0; j < 10; j++) {
                    d[i][j] = Math.min(d[i][j], d[i][k] + d[k][j]);
                }
            }
        }
        return d;
    }

    private int ring() {
        int least = 1000;
        for (int t = 0; t < 10; t++) {
            least = Math.min(least, distances()[t][t]);
        }
        return least >= 1000 ? -1 : least;
    }

    public int worth(int thing) {
        thing(thing);
        return worths.getOrDefault(thing, 0);
    }

    public int conditional(int one, int what) {
        element(one >= 0 && one < ifs.size() && what >= 0 && what <= 4);
        If i = ifs.get(one);
        int[] all = {bitsOf(i.needs), bitsOf(i.bars), i.gives, i.unless ? 1 : 0,
            now.denied.contains(one) ? 1 : 0};
        return all[what];
    }

    public int person(int person, int what) {
        who(person);
        element(what >= 0 && what <= 7);
        Person p = now.people.get(person);
        int[] all = {bitsOf(p.has), p.missed, p.spared, p.longing, p.flowers,
            bitsOf(there(now, person)), bitsOf(sparedBank(now, person)),
            wants(now, person) ? 1 : 0};
        return all[what];
    }

    private void act() {
        acts.addLast(now.copy());
        if (acts.size() > 40) {
            acts.removeFirst();
        }
    }

    public int sundays(int many) {
        if (many < 1 || many > 20 || now.sunday + many > 999) {
            status[1]++;
            return -1;
        }
        act();
        for (int i = 0; i < many; i++) {
            sunday(now);
        }
        return now.sunday;
    }

    public int has(int person, int thing, boolean is) {
        who(person);
        thing(thing);
        Person p = now.people.get(person);
        if (p.has.contains(thing) == is) {
            status[1]++;
            return -1;
        }
        act();
        p.has = is ? with(p.has, thing) : without(p.has, thing);
        return bitsOf(p.has);
    }

    public int miss(int person, int thing) {
        who(person);
        thing(thing);
        Person p = now.people.get(person);
        if (p.missed == thing) {
            status[1]++;
            return -1;
        }
        act();
        int was = p.missed;
        p.missed = thing;
        return was;
    }

    public boolean deny(int one, boolean is) {
        element(one >= 0 && one < ifs.size());
        if (now.denied.contains(one) == is) {
            status[1]++;
            return false;
        }
        act();
        now.denied = is ? with(now.denied, one) : without(now.denied, one);
        return true;
    }

    public int bridge(int bears) {
        if (bears < 1 || bears > 8) {
            status[1]++;
            return -1;
        }
        act();
        int was = now.bears;
        now.bears = bears;
        return was;
    }

    public int undo() {
        if (acts.isEmpty()) {
            return -1;
        }
        now = acts.removeLast();
        return acts.size();
    }

    public int crossing(int k) {
        range(k, 1, 60);
        return bitsOf(ahead(now, k).get(k - 1).crossed);
    }

    public int then(int person, int sundays, int what) {
        who(person);
        element(what == 0 || what == 1);
        range(sundays, 0, 60);
        List<World> days = ahead(now, sundays);
        World w = sundays == 0 ? now : days.get(sundays - 1);
        return what == 0 ? w.people.get(person).longing : w.people.get(person).flowers;
    }

    public int first(int person) {
        who(person);
        List<World> days = ahead(now, 60);
        for (int k = 1; k <= 60; k++) {
            if (days.get(k - 1).crossed.contains(person)) {
                return k;
            }
        }
        return -1;
    }

    public int waiting(int person, int sundays) {
        who(person);
        range(sundays, 0, 60);
        return (int) ahead(now, sundays).stream().filter(w -> w.waited.contains(person)).count();
    }

    public int toBear(int sundays) {
        range(sundays, 0, 60);
        for (int b = 1; b <= 8; b++) {
            World w = now.copy();
            w.bears = b;
            if (ahead(w, sundays).stream().allMatch(d -> d.waited.isEmpty())) {
                return b;
            }
        }
        throw new IllegalStateException("eight bear all");
    }

    public int comes(int things) {
        range(things, 0, 1023);
        return bitsOf(what(setOf(things), now.denied));
    }

    public int why(int things, int thing) {
        thing(thing);
        range(things, 0, 1023);
        Map<Integer, Integer> steps = new HashMap<>();
        ArrayDeque<Integer> queue = new ArrayDeque<>();
        steps.put(things, 0);
        queue.add(things);
        while (!queue.isEmpty()) {
            int s = queue.remove();
            if ((s >> thing & 1) != 0) {
                return steps.get(s);
            }
            for (int i = 0; i < ifs.size(); i++) {
                if (canBring(i, setOf(s), now.denied)) {
                    int next = s | 1 << ifs.get(i).gives;
                    if (!steps.containsKey(next)) {
                        steps.put(next, steps.get(s) + 1);
                        queue.add(next);
                    }
                }
            }
        }
        return -1;
    }

    public int needed(int things, int thing) {
        thing(thing);
        range(things, 0, 1023);
        return bitsWhere(ifs.size(), i -> what(setOf(things), now.denied).contains(thing)
                && !what(setOf(things), with(now.denied, i)).contains(thing));
    }

    /** Of all sets of so many members for which something holds: of the fewest, the least; -1. */
    private static int fewestOf(int many, IntPredicate holds) {
        for (int few = 0; few <= many; few++) {
            for (int s = 0; s < 1 << many; s++) {
                if (Integer.bitCount(s) == few && holds.test(s)) {
                    return s;
                }
            }
        }
        return -1;
    }

    public int fewest(int things, int thing) {
        thing(thing);
        range(things, 0, 1023);
        return fewestOf(10, s -> (s >> thing & 1) == 0
                && what(setOf(things | s), now.denied).contains(thing));
    }

    public boolean leads(int thing, int other) {
        thing(thing);
        thing(other);
        return distances()[thing][other] < 1000;
    }

    public int like(int person, int what) {
        who(person);
        element(what == 0 || what == 1);
        return bitsWhere(now.people.size(), o -> there(now, person)
                .equals(what == 0 ? there(now, o) : now.people.get(o).has));
    }

    public int toSend(int many) {
        range(many, 0, 8);
        int best = -1;
        int most = -1;
        for (int s = 0; s < 1 << now.people.size(); s++) {
            if (Integer.bitCount(s) == many) {
                TreeSet<Integer> all = new TreeSet<>();
                for (int p : setOf(s)) {
                    all.addAll(there(now, p));
                }
                if (all.size() > most) {
                    most = all.size();
                    best = s;
                }
            }
        }
        return best;
    }

    public int happiest(int what) {
        element(what >= 0 && what <= 2);
        int best = -1;
        int most = -1000;
        for (int p = 0; p < now.people.size(); p++) {
            List<TreeSet<Integer>> banks =
                    List.of(now.people.get(p).has, there(now, p), sparedBank(now, p));
            int worth = worthOfAll(banks.get(what));
            if (worth > most) {
                most = worth;
                best = p;
            }
        }
        return best;
    }

    public int critical(int person) {
        who(person);
        return bitsWhere(ifs.size(), i -> {
            World w = now.copy();
            w.denied.add(i);
            return !now.denied.contains(i) && !there(w, person).equals(there(now, person));
        });
    }

    private TreeSet<Integer> thereIf(int person, int missed) {
        World w = now.copy();
        w.people.get(person).missed = missed;
        return there(w, person);
    }

    public int bestMissed(int person) {
        who(person);
        int best = -1;
        int most = -1000;
        for (int t = 0; t < 10; t++) {
            int worth = worthOfAll(thereIf(person, t));
            if (worth > most) {
                most = worth;
                best = t;
            }
        }
        return best;
    }

    public int common(int person, int other) {
        who(person);
        who(other);
        return bitsOf(there(now, person)) & bitsOf(there(now, other));
    }

    public int apart(int person, int other) {
        who(person);
        who(other);
        int apart = 0;
        for (int t = 0; t < 10; t++) {
            apart += there(now, person).contains(t) != there(now, other).contains(t) ? 1 : 0;
        }
        return apart;
    }

    public int unhad() {
        return bitsWhere(10, t -> {
            for (int p = 0; p < now.people.size(); p++) {
                if (there(now, p).contains(t)) {
                    return false;
                }
            }
            return true;
        });
    }

    public int resting() {
        int found = 0;
        for (int s = 0; s < 1024; s++) {
            found += comes(s) == s ? 1 : 0;
        }
        return found;
    }

    public int sets(int thing) {
        thing(thing);
        int found = 0;
        for (int s = 0; s < 1024; s++) {
            found += what(setOf(s), now.denied).contains(thing) ? 1 : 0;
        }
        return found;
    }

    public int toDeny(int things, int thing) {
        thing(thing);
        range(things, 0, 1023);
        return fewestOf(ifs.size(), s -> {
            TreeSet<Integer> denied = new TreeSet<>(now.denied);
            denied.addAll(setOf(s));
            return !what(setOf(things), denied).contains(thing);
        });
    }

    public int sources(int thing) {
        thing(thing);
        return bitsWhere(10, t -> leads(t, thing));
    }

    public int times(int person, int sundays) {
        who(person);
        range(sundays, 0, 60);
        return (int) ahead(now, sundays).stream().filter(w -> w.crossed.contains(person)).count();
    }

    public int fullest(int sundays, int what) {
        element(what == 0 || what == 1);
        range(sundays, 1, 60);
        List<World> days = ahead(now, sundays);
        int most = days.stream().mapToInt(w -> w.crossed.size()).max().getAsInt();
        int which = 1;
        while (days.get(which - 1).crossed.size() != most) {
            which++;
        }
        return what == 0 ? which : most;
    }

    public int see(int person, int thing, boolean has) {
        who(person);
        thing(thing);
        if (seen.size() == 8) {
            status[2]++;
            return -1;
        }
        seen.add(new Sight(person, thing, has));
        return seen.size();
    }

    public int tells(int person) {
        who(person);
        return bitsWhere(10, t -> seen.stream().filter(s -> s.person == person)
                .allMatch(s -> thereIf(person, t).contains(s.thing) == s.has));
    }

    public int look(int person, int what) {
        who(person);
        element(what == 0 || what == 1);
        TreeSet<Integer> these = setOf(tells(person));
        int best = -1;
        int most = -1;
        for (int t = 0; t < 10 && !these.isEmpty(); t++) {
            int thing = t;
            int with = (int) these.stream().filter(m -> thereIf(person, m).contains(thing)).count();
            int lesser = Math.min(with, these.size() - with);
            if (lesser > most) {
                most = lesser;
                best = t;
            }
        }
        return what == 0 ? best : Math.max(most, 0);
    }

    public void forget() {
        seen.clear();
    }

    public int game(int person, int other, int what) {
        who(person);
        who(other);
        element(what == 0 || what == 1);
        argument(person != other);
        int[] pair = {person, other};
        int[] alone = new int[2];
        for (int i = 0; i < 2; i++) {
            alone[i] = worthOfAll(there(now, pair[i])) - worthOfAll(now.people.get(pair[i]).has);
        }
        int both = 2 * Integer.bitCount(common(person, other));
        int[][][] gain = new int[2][2][2];
        for (int a = 0; a < 2; a++) {
            for (int b = 0; b < 2; b++) {
                gain[a][b][0] = a == 0 ? 1 : b == 0 ? alone[0] : alone[0] / 2 + both;
                gain[a][b][1] = b == 0 ? 1 : a == 0 ? alone[1] : alone[1] / 2 + both;
            }
        }
        int many = 0;
        int first = -1;
        for (int a = 1; a >= 0; a--) {
            for (int b = 1; b >= 0; b--) {
                if (gain[1 - a][b][0] <= gain[a][b][0] && gain[a][1 - b][1] <= gain[a][b][1]) {
                    many++;
                    first = 10 * a + b;
                }
            }
        }
        return what == 0 ? many : first;
    }

    public int years(int seed, int n, int what) {
        element(what >= 0 && what <= 2);
        range(n, 0, 60);
        World w = now.copy();
        long s = seed;
        int crossings = 0;
        for (int i = 0; i < n; i++) {
            s = next(s);
            int kind = draw(s, 6);
            if (kind < 3 && !w.people.isEmpty()) {
                s = next(s);
                Person p = w.people.get(draw(s, w.people.size()));
                s = next(s);
                int thing = draw(s, 10);
                if (kind == 0) {
                    p.has.add(thing);
                } else if (kind == 1) {
                    p.has.remove(thing);
                } else {
                    p.missed = thing;
                }
            }
            sunday(w);
            crossings += w.crossed.size();
        }
        int flowers = w.people.stream().mapToInt(p -> p.flowers).sum();
        int longing = w.people.stream().mapToInt(p -> p.longing).sum();
        return what == 0 ? crossings : what == 1 ? flowers : longing;
    }

    private static long next(long seed) {
        return (seed * 1103515245L + 12345L) & 0xffffffffL;
    }

    private static int draw(long seed, int n) {
        return (int) ((seed & 0x7fff0000L) / 65536) % n;
    }

    public void image() {
        kept = new Kept();
        kept.world = now.copy();
        kept.acts = copies(acts);
        kept.seen = new ArrayList<>(seen);
        kept.status = status.clone();
    }

    public boolean restore() {
        if (kept == null) {
            return false;
        }
        now = kept.world.copy();
        acts = new ArrayDeque<>(copies(kept.acts));
        seen = new ArrayList<>(kept.seen);
        status = kept.status.clone();
        return true;
    }

    private static List<World> copies(Iterable<World> worlds) {
        List<World> all = new ArrayList<>();
        for (World w : worlds) {
            all.add(w.copy());
        }
        return all;
    }
}
